section
-- ===== PART A: goes FIRST, ahead of the names: the tables' words, and 'selects' of the private methods out of them =====
/-- a private method of a class that the tables say can be made, by its rows of tables_1 -/
def lw_okq (q : MethodName × Nat) : Prop := (q.1.cls ≠ "java/lang/invoke/MethodHandle" ∧ q.1.cls ≠ "java/lang/invoke/VarHandle") ∧ Cond.instantiable q.1.cls q.2 ∈ tables_1 ∧ Cond.privateMethod q.1 ∈ tables_1 ∧ Cond.instanceMethod q.1 ∈ tables_1
theorem lw_p0 : lw_okq (⟨"OhmBridge$History", "dropOldest", "()V"⟩, 2) := ⟨⟨by decide +kernel, by decide +kernel⟩, List.mem_of_getElem? (i := 152) (by decide +kernel), List.mem_of_getElem? (i := 317) (by decide +kernel), List.mem_of_getElem? (i := 318) (by decide +kernel)⟩
theorem lw_p1 : lw_okq (⟨"OhmBridge$Measurement", "heatedOhms", "(LOhmBridge$Sensor;LOhmBridge$Table;)J"⟩, 11) := ⟨⟨by decide +kernel, by decide +kernel⟩, List.mem_of_getElem? (i := 175) (by decide +kernel), List.mem_of_getElem? (i := 564) (by decide +kernel), List.mem_of_getElem? (i := 565) (by decide +kernel)⟩
theorem lw_p2 : lw_okq (⟨"OhmBridge$Measurement", "countsOf", "(J)J"⟩, 11) := ⟨⟨by decide +kernel, by decide +kernel⟩, List.mem_of_getElem? (i := 175) (by decide +kernel), List.mem_of_getElem? (i := 575) (by decide +kernel), List.mem_of_getElem? (i := 576) (by decide +kernel)⟩
theorem lw_p3 : lw_okq (⟨"OhmBridge$Measurement", "greatest", "()J"⟩, 11) := ⟨⟨by decide +kernel, by decide +kernel⟩, List.mem_of_getElem? (i := 175) (by decide +kernel), List.mem_of_getElem? (i := 579) (by decide +kernel), List.mem_of_getElem? (i := 580) (by decide +kernel)⟩
theorem lw_p4 : lw_okq (⟨"OhmBridge$Meter", "extrapolated", "(JJ)J"⟩, 5) := ⟨⟨by decide +kernel, by decide +kernel⟩, List.mem_of_getElem? (i := 169) (by decide +kernel), List.mem_of_getElem? (i := 596) (by decide +kernel), List.mem_of_getElem? (i := 597) (by decide +kernel)⟩
theorem lw_p5 : lw_okq (⟨"OhmBridge$Meter", "readingOf", "(LOhmBridge$Table;J)I"⟩, 5) := ⟨⟨by decide +kernel, by decide +kernel⟩, List.mem_of_getElem? (i := 169) (by decide +kernel), List.mem_of_getElem? (i := 605) (by decide +kernel), List.mem_of_getElem? (i := 606) (by decide +kernel)⟩
theorem lw_p6 : lw_okq (⟨"OhmBridge$Meter", "diagnosisOf", "(LOhmBridge$State;LOhmBridge$Sensor;)I"⟩, 5) := ⟨⟨by decide +kernel, by decide +kernel⟩, List.mem_of_getElem? (i := 169) (by decide +kernel), List.mem_of_getElem? (i := 612) (by decide +kernel), List.mem_of_getElem? (i := 613) (by decide +kernel)⟩
theorem lw_p7 : lw_okq (⟨"OhmBridge", "insertSorted", "(II)V"⟩, 10) := ⟨⟨by decide +kernel, by decide +kernel⟩, List.mem_of_getElem? (i := 15) (by decide +kernel), List.mem_of_getElem? (i := 711) (by decide +kernel), List.mem_of_getElem? (i := 712) (by decide +kernel)⟩
theorem lw_p8 : lw_okq (⟨"OhmBridge", "tryOrders", "()V"⟩, 10) := ⟨⟨by decide +kernel, by decide +kernel⟩, List.mem_of_getElem? (i := 15) (by decide +kernel), List.mem_of_getElem? (i := 772) (by decide +kernel), List.mem_of_getElem? (i := 773) (by decide +kernel)⟩
theorem lw_p9 : lw_okq (⟨"OhmBridge$Text", "characterAt", "(I)C"⟩, 6) := ⟨⟨by decide +kernel, by decide +kernel⟩, List.mem_of_getElem? (i := 246) (by decide +kernel), List.mem_of_getElem? (i := 781) (by decide +kernel), List.mem_of_getElem? (i := 782) (by decide +kernel)⟩
theorem lw_p10 : lw_okq (⟨"OhmBridge$Text", "takes", "(C)Z"⟩, 6) := ⟨⟨by decide +kernel, by decide +kernel⟩, List.mem_of_getElem? (i := 246) (by decide +kernel), List.mem_of_getElem? (i := 785) (by decide +kernel), List.mem_of_getElem? (i := 786) (by decide +kernel)⟩
theorem lw_p11 : lw_okq (⟨"OhmBridge$Text", "parsedDigits", "()I"⟩, 6) := ⟨⟨by decide +kernel, by decide +kernel⟩, List.mem_of_getElem? (i := 246) (by decide +kernel), List.mem_of_getElem? (i := 789) (by decide +kernel), List.mem_of_getElem? (i := 790) (by decide +kernel)⟩
theorem lw_p12 : lw_okq (⟨"OhmBridge$Text", "parsesNumber", "()Z"⟩, 6) := ⟨⟨by decide +kernel, by decide +kernel⟩, List.mem_of_getElem? (i := 246) (by decide +kernel), List.mem_of_getElem? (i := 793) (by decide +kernel), List.mem_of_getElem? (i := 794) (by decide +kernel)⟩
theorem lw_p13 : lw_okq (⟨"OhmBridge", "obey", "()I"⟩, 10) := ⟨⟨by decide +kernel, by decide +kernel⟩, List.mem_of_getElem? (i := 15) (by decide +kernel), List.mem_of_getElem? (i := 797) (by decide +kernel), List.mem_of_getElem? (i := 798) (by decide +kernel)⟩
theorem lw_p14 : lw_okq (⟨"OhmBridge", "obeyBath", "(LOhmBridge$Sensor;)I"⟩, 10) := ⟨⟨by decide +kernel, by decide +kernel⟩, List.mem_of_getElem? (i := 15) (by decide +kernel), List.mem_of_getElem? (i := 801) (by decide +kernel), List.mem_of_getElem? (i := 802) (by decide +kernel)⟩
theorem lw_p15 : lw_okq (⟨"OhmBridge", "obeyCut", "(LOhmBridge$Sensor;)I"⟩, 10) := ⟨⟨by decide +kernel, by decide +kernel⟩, List.mem_of_getElem? (i := 15) (by decide +kernel), List.mem_of_getElem? (i := 805) (by decide +kernel), List.mem_of_getElem? (i := 806) (by decide +kernel)⟩
def lw_privs_1 : List (MethodName × Nat) := [(⟨"OhmBridge$History", "dropOldest", "()V"⟩, 2), (⟨"OhmBridge$Measurement", "heatedOhms", "(LOhmBridge$Sensor;LOhmBridge$Table;)J"⟩, 11), (⟨"OhmBridge$Measurement", "countsOf", "(J)J"⟩, 11), (⟨"OhmBridge$Measurement", "greatest", "()J"⟩, 11), (⟨"OhmBridge$Meter", "extrapolated", "(JJ)J"⟩, 5), (⟨"OhmBridge$Meter", "readingOf", "(LOhmBridge$Table;J)I"⟩, 5), (⟨"OhmBridge$Meter", "diagnosisOf", "(LOhmBridge$State;LOhmBridge$Sensor;)I"⟩, 5), (⟨"OhmBridge", "insertSorted", "(II)V"⟩, 10), (⟨"OhmBridge", "tryOrders", "()V"⟩, 10), (⟨"OhmBridge$Text", "characterAt", "(I)C"⟩, 6), (⟨"OhmBridge$Text", "takes", "(C)Z"⟩, 6), (⟨"OhmBridge$Text", "parsedDigits", "()I"⟩, 6), (⟨"OhmBridge$Text", "parsesNumber", "()Z"⟩, 6), (⟨"OhmBridge", "obey", "()I"⟩, 10), (⟨"OhmBridge", "obeyBath", "(LOhmBridge$Sensor;)I"⟩, 10), (⟨"OhmBridge", "obeyCut", "(LOhmBridge$Sensor;)I"⟩, 10)]
theorem lw_r1 : ∀ q ∈ lw_privs_1, lw_okq q := List.forall_mem_cons.mpr ⟨lw_p0, List.forall_mem_cons.mpr ⟨lw_p1, List.forall_mem_cons.mpr ⟨lw_p2, List.forall_mem_cons.mpr ⟨lw_p3, List.forall_mem_cons.mpr ⟨lw_p4, List.forall_mem_cons.mpr ⟨lw_p5, List.forall_mem_cons.mpr ⟨lw_p6, List.forall_mem_cons.mpr ⟨lw_p7, List.forall_mem_cons.mpr ⟨lw_p8, List.forall_mem_cons.mpr ⟨lw_p9, List.forall_mem_cons.mpr ⟨lw_p10, List.forall_mem_cons.mpr ⟨lw_p11, List.forall_mem_cons.mpr ⟨lw_p12, List.forall_mem_cons.mpr ⟨lw_p13, List.forall_mem_cons.mpr ⟨lw_p14, List.forall_mem_cons.mpr ⟨lw_p15, fun _ h => absurd h List.not_mem_nil⟩⟩⟩⟩⟩⟩⟩⟩⟩⟩⟩⟩⟩⟩⟩⟩
theorem lw_p16 : lw_okq (⟨"OhmBridgeModel", "keeps", "()V"⟩, 11) := ⟨⟨by decide +kernel, by decide +kernel⟩, List.mem_of_getElem? (i := 813) (by decide +kernel), List.mem_of_getElem? (i := 859) (by decide +kernel), List.mem_of_getElem? (i := 860) (by decide +kernel)⟩
theorem lw_p17 : lw_okq (⟨"OhmBridgeModel", "acted", "(I)I"⟩, 11) := ⟨⟨by decide +kernel, by decide +kernel⟩, List.mem_of_getElem? (i := 813) (by decide +kernel), List.mem_of_getElem? (i := 863) (by decide +kernel), List.mem_of_getElem? (i := 864) (by decide +kernel)⟩
theorem lw_p18 : lw_okq (⟨"OhmBridgeModel", "isTable", "(I)Z"⟩, 11) := ⟨⟨by decide +kernel, by decide +kernel⟩, List.mem_of_getElem? (i := 813) (by decide +kernel), List.mem_of_getElem? (i := 872) (by decide +kernel), List.mem_of_getElem? (i := 873) (by decide +kernel)⟩
theorem lw_p19 : lw_okq (⟨"OhmBridgeModel", "nodes", "(I)I"⟩, 11) := ⟨⟨by decide +kernel, by decide +kernel⟩, List.mem_of_getElem? (i := 813) (by decide +kernel), List.mem_of_getElem? (i := 885) (by decide +kernel), List.mem_of_getElem? (i := 886) (by decide +kernel)⟩
theorem lw_p20 : lw_okq (⟨"OhmBridgeModel", "degree", "(II)I"⟩, 11) := ⟨⟨by decide +kernel, by decide +kernel⟩, List.mem_of_getElem? (i := 813) (by decide +kernel), List.mem_of_getElem? (i := 889) (by decide +kernel), List.mem_of_getElem? (i := 890) (by decide +kernel)⟩
theorem lw_p21 : lw_okq (⟨"OhmBridgeModel", "ratioOf", "(II)I"⟩, 11) := ⟨⟨by decide +kernel, by decide +kernel⟩, List.mem_of_getElem? (i := 813) (by decide +kernel), List.mem_of_getElem? (i := 893) (by decide +kernel), List.mem_of_getElem? (i := 894) (by decide +kernel)⟩
theorem lw_p22 : lw_okq (⟨"OhmBridgeModel", "of", "(II)I"⟩, 11) := ⟨⟨by decide +kernel, by decide +kernel⟩, List.mem_of_getElem? (i := 813) (by decide +kernel), List.mem_of_getElem? (i := 897) (by decide +kernel), List.mem_of_getElem? (i := 898) (by decide +kernel)⟩
theorem lw_p23 : lw_okq (⟨"OhmBridgeModel", "goes", "(II)Z"⟩, 11) := ⟨⟨by decide +kernel, by decide +kernel⟩, List.mem_of_getElem? (i := 813) (by decide +kernel), List.mem_of_getElem? (i := 911) (by decide +kernel), List.mem_of_getElem? (i := 912) (by decide +kernel)⟩
theorem lw_p24 : lw_okq (⟨"OhmBridgeModel", "first", "(I)I"⟩, 11) := ⟨⟨by decide +kernel, by decide +kernel⟩, List.mem_of_getElem? (i := 813) (by decide +kernel), List.mem_of_getElem? (i := 915) (by decide +kernel), List.mem_of_getElem? (i := 916) (by decide +kernel)⟩
theorem lw_p25 : lw_okq (⟨"OhmBridgeModel", "last", "(I)I"⟩, 11) := ⟨⟨by decide +kernel, by decide +kernel⟩, List.mem_of_getElem? (i := 813) (by decide +kernel), List.mem_of_getElem? (i := 919) (by decide +kernel), List.mem_of_getElem? (i := 920) (by decide +kernel)⟩
theorem lw_p26 : lw_okq (⟨"OhmBridgeModel", "ratioAt", "(II)I"⟩, 11) := ⟨⟨by decide +kernel, by decide +kernel⟩, List.mem_of_getElem? (i := 813) (by decide +kernel), List.mem_of_getElem? (i := 923) (by decide +kernel), List.mem_of_getElem? (i := 924) (by decide +kernel)⟩
theorem lw_p27 : lw_okq (⟨"OhmBridgeModel", "inverseOf", "(IJ)I"⟩, 11) := ⟨⟨by decide +kernel, by decide +kernel⟩, List.mem_of_getElem? (i := 813) (by decide +kernel), List.mem_of_getElem? (i := 931) (by decide +kernel), List.mem_of_getElem? (i := 932) (by decide +kernel)⟩
theorem lw_p28 : lw_okq (⟨"OhmBridgeModel", "put", "(III)V"⟩, 11) := ⟨⟨by decide +kernel, by decide +kernel⟩, List.mem_of_getElem? (i := 813) (by decide +kernel), List.mem_of_getElem? (i := 940) (by decide +kernel), List.mem_of_getElem? (i := 941) (by decide +kernel)⟩
theorem lw_p29 : lw_okq (⟨"OhmBridgeModel", "isSensor", "(I)Z"⟩, 11) := ⟨⟨by decide +kernel, by decide +kernel⟩, List.mem_of_getElem? (i := 813) (by decide +kernel), List.mem_of_getElem? (i := 948) (by decide +kernel), List.mem_of_getElem? (i := 949) (by decide +kernel)⟩
theorem lw_p30 : lw_okq (⟨"OhmBridgeModel", "inside", "(I)I"⟩, 11) := ⟨⟨by decide +kernel, by decide +kernel⟩, List.mem_of_getElem? (i := 813) (by decide +kernel), List.mem_of_getElem? (i := 952) (by decide +kernel), List.mem_of_getElem? (i := 953) (by decide +kernel)⟩
theorem lw_p31 : lw_okq (⟨"OhmBridgeModel", "baths", "(II)I"⟩, 11) := ⟨⟨by decide +kernel, by decide +kernel⟩, List.mem_of_getElem? (i := 813) (by decide +kernel), List.mem_of_getElem? (i := 968) (by decide +kernel), List.mem_of_getElem? (i := 969) (by decide +kernel)⟩
def lw_privs_2 : List (MethodName × Nat) := [(⟨"OhmBridgeModel", "keeps", "()V"⟩, 11), (⟨"OhmBridgeModel", "acted", "(I)I"⟩, 11), (⟨"OhmBridgeModel", "isTable", "(I)Z"⟩, 11), (⟨"OhmBridgeModel", "nodes", "(I)I"⟩, 11), (⟨"OhmBridgeModel", "degree", "(II)I"⟩, 11), (⟨"OhmBridgeModel", "ratioOf", "(II)I"⟩, 11), (⟨"OhmBridgeModel", "of", "(II)I"⟩, 11), (⟨"OhmBridgeModel", "goes", "(II)Z"⟩, 11), (⟨"OhmBridgeModel", "first", "(I)I"⟩, 11), (⟨"OhmBridgeModel", "last", "(I)I"⟩, 11), (⟨"OhmBridgeModel", "ratioAt", "(II)I"⟩, 11), (⟨"OhmBridgeModel", "inverseOf", "(IJ)I"⟩, 11), (⟨"OhmBridgeModel", "put", "(III)V"⟩, 11), (⟨"OhmBridgeModel", "isSensor", "(I)Z"⟩, 11), (⟨"OhmBridgeModel", "inside", "(I)I"⟩, 11), (⟨"OhmBridgeModel", "baths", "(II)I"⟩, 11)]
theorem lw_r2 : ∀ q ∈ lw_privs_2, lw_okq q := List.forall_mem_cons.mpr ⟨lw_p16, List.forall_mem_cons.mpr ⟨lw_p17, List.forall_mem_cons.mpr ⟨lw_p18, List.forall_mem_cons.mpr ⟨lw_p19, List.forall_mem_cons.mpr ⟨lw_p20, List.forall_mem_cons.mpr ⟨lw_p21, List.forall_mem_cons.mpr ⟨lw_p22, List.forall_mem_cons.mpr ⟨lw_p23, List.forall_mem_cons.mpr ⟨lw_p24, List.forall_mem_cons.mpr ⟨lw_p25, List.forall_mem_cons.mpr ⟨lw_p26, List.forall_mem_cons.mpr ⟨lw_p27, List.forall_mem_cons.mpr ⟨lw_p28, List.forall_mem_cons.mpr ⟨lw_p29, List.forall_mem_cons.mpr ⟨lw_p30, List.forall_mem_cons.mpr ⟨lw_p31, fun _ h => absurd h List.not_mem_nil⟩⟩⟩⟩⟩⟩⟩⟩⟩⟩⟩⟩⟩⟩⟩⟩
theorem lw_p32 : lw_okq (⟨"OhmBridgeModel", "isWire", "(II)Z"⟩, 11) := ⟨⟨by decide +kernel, by decide +kernel⟩, List.mem_of_getElem? (i := 813) (by decide +kernel), List.mem_of_getElem? (i := 976) (by decide +kernel), List.mem_of_getElem? (i := 977) (by decide +kernel)⟩
theorem lw_p33 : lw_okq (⟨"OhmBridgeModel", "cuts", "(III)I"⟩, 11) := ⟨⟨by decide +kernel, by decide +kernel⟩, List.mem_of_getElem? (i := 813) (by decide +kernel), List.mem_of_getElem? (i := 990) (by decide +kernel), List.mem_of_getElem? (i := 991) (by decide +kernel)⟩
theorem lw_p34 : lw_okq (⟨"OhmBridgeModel", "diagnosed", "(I)I"⟩, 11) := ⟨⟨by decide +kernel, by decide +kernel⟩, List.mem_of_getElem? (i := 813) (by decide +kernel), List.mem_of_getElem? (i := 1011) (by decide +kernel), List.mem_of_getElem? (i := 1012) (by decide +kernel)⟩
theorem lw_p35 : lw_okq (⟨"OhmBridgeModel", "without", "(I)J"⟩, 11) := ⟨⟨by decide +kernel, by decide +kernel⟩, List.mem_of_getElem? (i := 813) (by decide +kernel), List.mem_of_getElem? (i := 1015) (by decide +kernel), List.mem_of_getElem? (i := 1016) (by decide +kernel)⟩
theorem lw_p36 : lw_okq (⟨"OhmBridgeModel", "compensated", "(II)J"⟩, 11) := ⟨⟨by decide +kernel, by decide +kernel⟩, List.mem_of_getElem? (i := 813) (by decide +kernel), List.mem_of_getElem? (i := 1019) (by decide +kernel), List.mem_of_getElem? (i := 1020) (by decide +kernel)⟩
theorem lw_p37 : lw_okq (⟨"OhmBridgeModel", "countsOf", "(IIII)J"⟩, 11) := ⟨⟨by decide +kernel, by decide +kernel⟩, List.mem_of_getElem? (i := 813) (by decide +kernel), List.mem_of_getElem? (i := 1023) (by decide +kernel), List.mem_of_getElem? (i := 1024) (by decide +kernel)⟩
theorem lw_p38 : lw_okq (⟨"OhmBridgeModel", "countsOneWay", "(IIII)J"⟩, 11) := ⟨⟨by decide +kernel, by decide +kernel⟩, List.mem_of_getElem? (i := 813) (by decide +kernel), List.mem_of_getElem? (i := 1027) (by decide +kernel), List.mem_of_getElem? (i := 1028) (by decide +kernel)⟩
theorem lw_p39 : lw_okq (⟨"OhmBridgeModel", "loop", "(II)J"⟩, 11) := ⟨⟨by decide +kernel, by decide +kernel⟩, List.mem_of_getElem? (i := 813) (by decide +kernel), List.mem_of_getElem? (i := 1031) (by decide +kernel), List.mem_of_getElem? (i := 1032) (by decide +kernel)⟩
theorem lw_p40 : lw_okq (⟨"OhmBridgeModel", "heated", "(II)J"⟩, 11) := ⟨⟨by decide +kernel, by decide +kernel⟩, List.mem_of_getElem? (i := 813) (by decide +kernel), List.mem_of_getElem? (i := 1035) (by decide +kernel), List.mem_of_getElem? (i := 1036) (by decide +kernel)⟩
theorem lw_p41 : lw_okq (⟨"OhmBridgeModel", "resistance", "(II)J"⟩, 11) := ⟨⟨by decide +kernel, by decide +kernel⟩, List.mem_of_getElem? (i := 813) (by decide +kernel), List.mem_of_getElem? (i := 1039) (by decide +kernel), List.mem_of_getElem? (i := 1040) (by decide +kernel)⟩
theorem lw_p42 : lw_okq (⟨"OhmBridgeModel", "byCounts", "(J)J"⟩, 11) := ⟨⟨by decide +kernel, by decide +kernel⟩, List.mem_of_getElem? (i := 813) (by decide +kernel), List.mem_of_getElem? (i := 1046) (by decide +kernel), List.mem_of_getElem? (i := 1047) (by decide +kernel)⟩
theorem lw_p43 : lw_okq (⟨"OhmBridgeModel", "isBound", "(II)Z"⟩, 11) := ⟨⟨by decide +kernel, by decide +kernel⟩, List.mem_of_getElem? (i := 813) (by decide +kernel), List.mem_of_getElem? (i := 1052) (by decide +kernel), List.mem_of_getElem? (i := 1053) (by decide +kernel)⟩
theorem lw_p44 : lw_okq (⟨"OhmBridgeModel", "degrees", "(I)I"⟩, 11) := ⟨⟨by decide +kernel, by decide +kernel⟩, List.mem_of_getElem? (i := 813) (by decide +kernel), List.mem_of_getElem? (i := 1059) (by decide +kernel), List.mem_of_getElem? (i := 1060) (by decide +kernel)⟩
theorem lw_p45 : lw_okq (⟨"OhmBridgeModel", "reads", "(I)I"⟩, 11) := ⟨⟨by decide +kernel, by decide +kernel⟩, List.mem_of_getElem? (i := 813) (by decide +kernel), List.mem_of_getElem? (i := 1098) (by decide +kernel), List.mem_of_getElem? (i := 1099) (by decide +kernel)⟩
theorem lw_p46 : lw_okq (⟨"OhmBridgeModel", "alarms", "(II)V"⟩, 11) := ⟨⟨by decide +kernel, by decide +kernel⟩, List.mem_of_getElem? (i := 813) (by decide +kernel), List.mem_of_getElem? (i := 1102) (by decide +kernel), List.mem_of_getElem? (i := 1103) (by decide +kernel)⟩
theorem lw_p47 : lw_okq (⟨"OhmBridgeModel", "scans", "()I"⟩, 11) := ⟨⟨by decide +kernel, by decide +kernel⟩, List.mem_of_getElem? (i := 813) (by decide +kernel), List.mem_of_getElem? (i := 1110) (by decide +kernel), List.mem_of_getElem? (i := 1111) (by decide +kernel)⟩
def lw_privs_3 : List (MethodName × Nat) := [(⟨"OhmBridgeModel", "isWire", "(II)Z"⟩, 11), (⟨"OhmBridgeModel", "cuts", "(III)I"⟩, 11), (⟨"OhmBridgeModel", "diagnosed", "(I)I"⟩, 11), (⟨"OhmBridgeModel", "without", "(I)J"⟩, 11), (⟨"OhmBridgeModel", "compensated", "(II)J"⟩, 11), (⟨"OhmBridgeModel", "countsOf", "(IIII)J"⟩, 11), (⟨"OhmBridgeModel", "countsOneWay", "(IIII)J"⟩, 11), (⟨"OhmBridgeModel", "loop", "(II)J"⟩, 11), (⟨"OhmBridgeModel", "heated", "(II)J"⟩, 11), (⟨"OhmBridgeModel", "resistance", "(II)J"⟩, 11), (⟨"OhmBridgeModel", "byCounts", "(J)J"⟩, 11), (⟨"OhmBridgeModel", "isBound", "(II)Z"⟩, 11), (⟨"OhmBridgeModel", "degrees", "(I)I"⟩, 11), (⟨"OhmBridgeModel", "reads", "(I)I"⟩, 11), (⟨"OhmBridgeModel", "alarms", "(II)V"⟩, 11), (⟨"OhmBridgeModel", "scans", "()I"⟩, 11)]
theorem lw_r3 : ∀ q ∈ lw_privs_3, lw_okq q := List.forall_mem_cons.mpr ⟨lw_p32, List.forall_mem_cons.mpr ⟨lw_p33, List.forall_mem_cons.mpr ⟨lw_p34, List.forall_mem_cons.mpr ⟨lw_p35, List.forall_mem_cons.mpr ⟨lw_p36, List.forall_mem_cons.mpr ⟨lw_p37, List.forall_mem_cons.mpr ⟨lw_p38, List.forall_mem_cons.mpr ⟨lw_p39, List.forall_mem_cons.mpr ⟨lw_p40, List.forall_mem_cons.mpr ⟨lw_p41, List.forall_mem_cons.mpr ⟨lw_p42, List.forall_mem_cons.mpr ⟨lw_p43, List.forall_mem_cons.mpr ⟨lw_p44, List.forall_mem_cons.mpr ⟨lw_p45, List.forall_mem_cons.mpr ⟨lw_p46, List.forall_mem_cons.mpr ⟨lw_p47, fun _ h => absurd h List.not_mem_nil⟩⟩⟩⟩⟩⟩⟩⟩⟩⟩⟩⟩⟩⟩⟩⟩
theorem lw_p48 : lw_okq (⟨"OhmBridgeModel", "faulty", "()I"⟩, 11) := ⟨⟨by decide +kernel, by decide +kernel⟩, List.mem_of_getElem? (i := 813) (by decide +kernel), List.mem_of_getElem? (i := 1157) (by decide +kernel), List.mem_of_getElem? (i := 1158) (by decide +kernel)⟩
theorem lw_p49 : lw_okq (⟨"OhmBridgeModel", "doesNext", "()I"⟩, 11) := ⟨⟨by decide +kernel, by decide +kernel⟩, List.mem_of_getElem? (i := 813) (by decide +kernel), List.mem_of_getElem? (i := 1161) (by decide +kernel), List.mem_of_getElem? (i := 1162) (by decide +kernel)⟩
theorem lw_p50 : lw_okq (⟨"OhmBridgeModel", "readsForm", "(C)Z"⟩, 11) := ⟨⟨by decide +kernel, by decide +kernel⟩, List.mem_of_getElem? (i := 813) (by decide +kernel), List.mem_of_getElem? (i := 1165) (by decide +kernel), List.mem_of_getElem? (i := 1166) (by decide +kernel)⟩
theorem lw_p51 : lw_okq (⟨"OhmBridgeModel", "takes", "(I)Z"⟩, 11) := ⟨⟨by decide +kernel, by decide +kernel⟩, List.mem_of_getElem? (i := 813) (by decide +kernel), List.mem_of_getElem? (i := 1169) (by decide +kernel), List.mem_of_getElem? (i := 1170) (by decide +kernel)⟩
theorem lw_p52 : lw_okq (⟨"OhmBridgeModel", "passes", "(C)Z"⟩, 11) := ⟨⟨by decide +kernel, by decide +kernel⟩, List.mem_of_getElem? (i := 813) (by decide +kernel), List.mem_of_getElem? (i := 1173) (by decide +kernel), List.mem_of_getElem? (i := 1174) (by decide +kernel)⟩
theorem lw_p53 : lw_okq (⟨"OhmBridgeModel", "does", "(C)I"⟩, 11) := ⟨⟨by decide +kernel, by decide +kernel⟩, List.mem_of_getElem? (i := 813) (by decide +kernel), List.mem_of_getElem? (i := 1177) (by decide +kernel), List.mem_of_getElem? (i := 1178) (by decide +kernel)⟩
def lw_privs_4 : List (MethodName × Nat) := [(⟨"OhmBridgeModel", "faulty", "()I"⟩, 11), (⟨"OhmBridgeModel", "doesNext", "()I"⟩, 11), (⟨"OhmBridgeModel", "readsForm", "(C)Z"⟩, 11), (⟨"OhmBridgeModel", "takes", "(I)Z"⟩, 11), (⟨"OhmBridgeModel", "passes", "(C)Z"⟩, 11), (⟨"OhmBridgeModel", "does", "(C)I"⟩, 11)]
theorem lw_r4 : ∀ q ∈ lw_privs_4, lw_okq q := List.forall_mem_cons.mpr ⟨lw_p48, List.forall_mem_cons.mpr ⟨lw_p49, List.forall_mem_cons.mpr ⟨lw_p50, List.forall_mem_cons.mpr ⟨lw_p51, List.forall_mem_cons.mpr ⟨lw_p52, List.forall_mem_cons.mpr ⟨lw_p53, fun _ h => absurd h List.not_mem_nil⟩⟩⟩⟩⟩⟩
def lw_privs : List (MethodName × Nat) := lw_privs_1 ++ (lw_privs_2 ++ (lw_privs_3 ++ (lw_privs_4)))
def lw_tbl : List Cond := k2_sels lw_privs ++ tables_1
theorem lw_privs_ok : ∀ q ∈ lw_privs, lw_okq q := by
  show ∀ q ∈ lw_privs_1 ++ (lw_privs_2 ++ (lw_privs_3 ++ (lw_privs_4))), lw_okq q
  exact List.forall_mem_append.mpr ⟨lw_r1, List.forall_mem_append.mpr ⟨lw_r2, List.forall_mem_append.mpr ⟨lw_r3, lw_r4⟩⟩⟩
/-- the streams that the claim lets the run draw from -/
abbrev lw_cs : List Choice := [Jvm.Choice.named "NaN.bits"]
theorem lw_bits : nanBits ∈ lw_cs := by first | decide | exact List.mem_cons_self | simp [lw_cs, nanBits]
-- ===== end of PART A; then your names; then what follows =====
end
section
/-! ===== BEGIN words of one list among another's, by their places ===== -/
theorem goodIn_r {big : List Cond} (ws : List Cond) (ps : List Nat) (hp : ws = ps.filterMap (fun i => big[i]?)) (h : ws.all goodWord = true) : GoodIn big ws := by
  intro w hw
  have h1 := List.all_eq_true.mp h w hw
  rw [hp] at hw
  obtain ⟨i, -, hi⟩ := List.mem_filterMap.mp hw
  have hm : w ∈ big := by first | exact List.mem_of_getElem? hi | exact List.getElem?_mem hi
  exact ⟨hm, good_of_word h1⟩
theorem goodIn_app {big a b : List Cond} (ha : GoodIn big a) (hb : GoodIn big b) : GoodIn big (a ++ b) := fun w h => (List.mem_append.mp h).elim (ha w) (hb w)
theorem goodIn_ca {big a b : List Cond} {c : Cond} (ha : GoodIn big (c :: a)) (hb : GoodIn big b) : GoodIn big (c :: (a ++ b)) := fun w h => (List.mem_cons.mp h).elim (fun e => ha w (List.mem_cons.mpr (Or.inl e))) (fun h => (List.mem_append.mp h).elim (fun h => ha w (List.mem_cons.mpr (Or.inr h))) (hb w))
theorem goodIn_sub {big ws : List Cond} (hm : ∀ w ∈ ws, w ∈ big) (h : ws.all goodWord = true) : GoodIn big ws := fun w hw => ⟨hm w hw, good_of_word (List.all_eq_true.mp h w hw)⟩
/-! ===== END ===== -/

/-! ===== BEGIN printed: names, fields, word lists, decode rows ===== -/
def RX0 : String := "OhmBridge$History"
def TX0 : u_T := fun k => match k with
  | 0 => ("OhmBridge$History", "size", "I", false)
  | _ => ("OhmBridge$History", "kept", "[LOhmBridge$State;", true)
def tyX0 : Nat → FieldType := fun k => match k with
  | 0 => .int
  | _ => .array (.object "OhmBridge$State")
abbrev wsX00 : List Cond := u_ws RX0 TX0 2
theorem nmX0 : ∀ a, a < 2 → ∀ b, b < 2 → a ≠ b → (TX0 a).2.1 ≠ (TX0 b).2.1 := by decide +kernel
theorem tyX0_ok : ∀ k, k < 2 → parseFieldDescriptor (TX0 k).2.2.1 = some (tyX0 k) := by decide +kernel
abbrev cX0_init : ByteArray := prog_2_method_1_code
def yX0_init : MethodName := ⟨RX0, "<init>", "()V"⟩
abbrev cX0_record : ByteArray := prog_2_method_2_code
def yX0_record : MethodName := ⟨RX0, "record", "(LOhmBridge$State;)V"⟩
abbrev cX0_restore : ByteArray := prog_2_method_3_code
def yX0_restore : MethodName := ⟨RX0, "restore", "(LOhmBridge$State;)V"⟩
abbrev cX0_dropOldest : ByteArray := prog_2_method_4_code
def yX0_dropOldest : MethodName := ⟨RX0, "dropOldest", "()V"⟩
def RX1 : String := "OhmBridge$Measurement"
def TX1 : u_T := fun k => match k with
  | 0 => ("OhmBridge$Measurement", "heated", "J", false)
  | 1 => ("OhmBridge$Measurement", "oneWay", "J", false)
  | 2 => ("OhmBridge$Measurement", "otherWay", "J", false)
  | 3 => ("OhmBridge$Measurement", "secondOneWay", "J", false)
  | 4 => ("OhmBridge$Measurement", "secondOtherWay", "J", false)
  | 5 => ("OhmBridge$Measurement", "loopOhms", "J", false)
  | 6 => ("OhmBridge$Measurement", "compensated", "J", false)
  | 7 => ("OhmBridge$Measurement", "current", "J", false)
  | 8 => ("OhmBridge$Measurement", "reference", "J", false)
  | 9 => ("OhmBridge$Measurement", "unit", "J", false)
  | _ => ("OhmBridge$Measurement", "stray", "J", false)
def tyX1 : Nat → FieldType := fun k => match k with
  | 0 => .long
  | 1 => .long
  | 2 => .long
  | 3 => .long
  | 4 => .long
  | 5 => .long
  | 6 => .long
  | 7 => .long
  | 8 => .long
  | 9 => .long
  | _ => .long
abbrev wsX10 : List Cond := u_ws RX1 TX1 11
theorem nmX1 : ∀ a, a < 11 → ∀ b, b < 11 → a ≠ b → (TX1 a).2.1 ≠ (TX1 b).2.1 := by decide +kernel
theorem tyX1_ok : ∀ k, k < 11 → parseFieldDescriptor (TX1 k).2.2.1 = some (tyX1 k) := by decide +kernel
abbrev cX1_init : ByteArray := prog_3_method_1_code
def yX1_init : MethodName := ⟨RX1, "<init>", "()V"⟩
abbrev cX1_take : ByteArray := prog_3_method_2_code
def yX1_take : MethodName := ⟨RX1, "take", "(LOhmBridge$State;LOhmBridge$Sensor;I)V"⟩
abbrev cX1_heatedOhms : ByteArray := prog_3_method_3_code
def yX1_heatedOhms : MethodName := ⟨RX1, "heatedOhms", "(LOhmBridge$Sensor;LOhmBridge$Table;)J"⟩
abbrev cX1_greatest : ByteArray := prog_3_method_4_code
def yX1_greatest : MethodName := ⟨RX1, "greatest", "()J"⟩
abbrev cX1_countsOf : ByteArray := prog_3_method_5_code
def yX1_countsOf : MethodName := ⟨RX1, "countsOf", "(J)J"⟩
abbrev cX1_ohmsBy : ByteArray := prog_3_method_6_code
def yX1_ohmsBy : MethodName := ⟨RX1, "ohmsBy", "(J)J"⟩
abbrev cX1_isAtBound : ByteArray := prog_3_method_7_code
def yX1_isAtBound : MethodName := ⟨RX1, "isAtBound", "()Z"⟩
def RX2 : String := "OhmBridge$Meter"
def TX2 : u_T := fun k => match k with
  | 0 => ("OhmBridge$Meter", "first", "LOhmBridge$Measurement;", true)
  | 1 => ("OhmBridge$Meter", "second", "LOhmBridge$Measurement;", true)
  | 2 => ("OhmBridge$Meter", "withoutPower", "J", false)
  | 3 => ("OhmBridge$Meter", "reading", "I", false)
  | _ => ("OhmBridge$Meter", "diagnosed", "I", false)
def tyX2 : Nat → FieldType := fun k => match k with
  | 0 => .object "OhmBridge$Measurement"
  | 1 => .object "OhmBridge$Measurement"
  | 2 => .long
  | 3 => .int
  | _ => .int
abbrev wsX20 : List Cond := u_ws RX2 TX2 5
theorem nmX2 : ∀ a, a < 5 → ∀ b, b < 5 → a ≠ b → (TX2 a).2.1 ≠ (TX2 b).2.1 := by decide +kernel
theorem tyX2_ok : ∀ k, k < 5 → parseFieldDescriptor (TX2 k).2.2.1 = some (tyX2 k) := by decide +kernel
abbrev cX2_init : ByteArray := prog_4_method_1_code
def yX2_init : MethodName := ⟨RX2, "<init>", "()V"⟩
abbrev cX2_measure : ByteArray := prog_4_method_2_code
def yX2_measure : MethodName := ⟨RX2, "measure", "(LOhmBridge$State;LOhmBridge$Sensor;)V"⟩
abbrev cX2_extrapolated : ByteArray := prog_4_method_3_code
def yX2_extrapolated : MethodName := ⟨RX2, "extrapolated", "(JJ)J"⟩
abbrev cX2_readingOf : ByteArray := prog_4_method_4_code
def yX2_readingOf : MethodName := ⟨RX2, "readingOf", "(LOhmBridge$Table;J)I"⟩
abbrev cX2_diagnosisOf : ByteArray := prog_4_method_5_code
def yX2_diagnosisOf : MethodName := ⟨RX2, "diagnosisOf", "(LOhmBridge$State;LOhmBridge$Sensor;)I"⟩
def RX3 : String := "OhmBridge$Sensor"
def TX3 : u_T := fun k => match k with
  | 0 => ("OhmBridge$Sensor", "table", "I", false)
  | 1 => ("OhmBridge$Sensor", "wires", "I", false)
  | 2 => ("OhmBridge$Sensor", "trueBase", "I", false)
  | 3 => ("OhmBridge$Sensor", "assumedBase", "I", false)
  | 4 => ("OhmBridge$Sensor", "temperature", "I", false)
  | 5 => ("OhmBridge$Sensor", "brokenWires", "I", false)
  | 6 => ("OhmBridge$Sensor", "place", "I", false)
  | 7 => ("OhmBridge$Sensor", "low", "I", false)
  | 8 => ("OhmBridge$Sensor", "high", "I", false)
  | 9 => ("OhmBridge$Sensor", "hysteresis", "I", false)
  | 10 => ("OhmBridge$Sensor", "alarm", "I", false)
  | 11 => ("OhmBridge$Sensor", "readings", "I", false)
  | 12 => ("OhmBridge$Sensor", "leads", "[I", true)
  | 13 => ("OhmBridge$Sensor", "strains", "[I", true)
  | _ => ("OhmBridge$Sensor", "latest", "[I", true)
def tyX3 : Nat → FieldType := fun k => match k with
  | 0 => .int
  | 1 => .int
  | 2 => .int
  | 3 => .int
  | 4 => .int
  | 5 => .int
  | 6 => .int
  | 7 => .int
  | 8 => .int
  | 9 => .int
  | 10 => .int
  | 11 => .int
  | 12 => .array .int
  | 13 => .array .int
  | _ => .array .int
abbrev wsX30 : List Cond := u_ws RX3 TX3 15
theorem nmX3 : ∀ a, a < 15 → ∀ b, b < 15 → a ≠ b → (TX3 a).2.1 ≠ (TX3 b).2.1 := by decide +kernel
theorem tyX3_ok : ∀ k, k < 15 → parseFieldDescriptor (TX3 k).2.2.1 = some (tyX3 k) := by decide +kernel
abbrev cX3_init : ByteArray := prog_5_method_1_code
def yX3_init : MethodName := ⟨RX3, "<init>", "()V"⟩
abbrev cX3_begin : ByteArray := prog_5_method_2_code
def yX3_begin : MethodName := ⟨RX3, "begin", "(IIII)V"⟩
abbrev cX3_copy : ByteArray := prog_5_method_3_code
def yX3_copy : MethodName := ⟨RX3, "copy", "(LOhmBridge$Sensor;)V"⟩
abbrev cX3_isPlugged : ByteArray := prog_5_method_4_code
def yX3_isPlugged : MethodName := ⟨RX3, "isPlugged", "()Z"⟩
abbrev cX3_fits : ByteArray := prog_5_method_5_code
def yX3_fits : MethodName := ⟨RX3, "fits", "(I)Z"⟩
abbrev cX3_isCompensated : ByteArray := prog_5_method_6_code
def yX3_isCompensated : MethodName := ⟨RX3, "isCompensated", "()Z"⟩
abbrev cX3_hasWire : ByteArray := prog_5_method_7_code
def yX3_hasWire : MethodName := ⟨RX3, "hasWire", "(I)Z"⟩
abbrev cX3_leadOf : ByteArray := prog_5_method_8_code
def yX3_leadOf : MethodName := ⟨RX3, "leadOf", "(I)I"⟩
abbrev cX3_setLead : ByteArray := prog_5_method_9_code
def yX3_setLead : MethodName := ⟨RX3, "setLead", "(II)V"⟩
abbrev cX3_strainOf : ByteArray := prog_5_method_10_code
def yX3_strainOf : MethodName := ⟨RX3, "strainOf", "(I)I"⟩
abbrev cX3_setStrain : ByteArray := prog_5_method_11_code
def yX3_setStrain : MethodName := ⟨RX3, "setStrain", "(II)V"⟩
abbrev cX3_isBroken : ByteArray := prog_5_method_12_code
def yX3_isBroken : MethodName := ⟨RX3, "isBroken", "(I)Z"⟩
abbrev cX3_turnWire : ByteArray := prog_5_method_13_code
def yX3_turnWire : MethodName := ⟨RX3, "turnWire", "(I)V"⟩
abbrev cX3_watch : ByteArray := prog_5_method_14_code
def yX3_watch : MethodName := ⟨RX3, "watch", "(III)V"⟩
abbrev cX3_keptReadings : ByteArray := prog_5_method_15_code
def yX3_keptReadings : MethodName := ⟨RX3, "keptReadings", "()I"⟩
abbrev cX3_reading : ByteArray := prog_5_method_16_code
def yX3_reading : MethodName := ⟨RX3, "reading", "(I)I"⟩
abbrev cX3_log : ByteArray := prog_5_method_17_code
def yX3_log : MethodName := ⟨RX3, "log", "(I)V"⟩
def RX4 : String := "OhmBridge$State"
def TX4 : u_T := fun k => match k with
  | 0 => ("OhmBridge$State", "tableCount", "I", false)
  | 1 => ("OhmBridge$State", "sensorCount", "I", false)
  | 2 => ("OhmBridge$State", "scanner", "I", false)
  | 3 => ("OhmBridge$State", "tables", "[LOhmBridge$Table;", true)
  | 4 => ("OhmBridge$State", "sensors", "[LOhmBridge$Sensor;", true)
  | _ => ("OhmBridge$State", "settings", "[I", true)
def tyX4 : Nat → FieldType := fun k => match k with
  | 0 => .int
  | 1 => .int
  | 2 => .int
  | 3 => .array (.object "OhmBridge$Table")
  | 4 => .array (.object "OhmBridge$Sensor")
  | _ => .array .int
abbrev wsX40 : List Cond := u_ws RX4 TX4 6
theorem nmX4 : ∀ a, a < 6 → ∀ b, b < 6 → a ≠ b → (TX4 a).2.1 ≠ (TX4 b).2.1 := by decide +kernel
theorem tyX4_ok : ∀ k, k < 6 → parseFieldDescriptor (TX4 k).2.2.1 = some (tyX4 k) := by decide +kernel
abbrev cX4_init : ByteArray := prog_6_method_1_code
def yX4_init : MethodName := ⟨RX4, "<init>", "()V"⟩
abbrev cX4_copy : ByteArray := prog_6_method_2_code
def yX4_copy : MethodName := ⟨RX4, "copy", "(LOhmBridge$State;)V"⟩
abbrev cX4_tableAt : ByteArray := prog_6_method_3_code
def yX4_tableAt : MethodName := ⟨RX4, "tableAt", "(I)LOhmBridge$Table;"⟩
abbrev cX4_sensorAt : ByteArray := prog_6_method_4_code
def yX4_sensorAt : MethodName := ⟨RX4, "sensorAt", "(I)LOhmBridge$Sensor;"⟩
abbrev cX4_setting : ByteArray := prog_6_method_5_code
def yX4_setting : MethodName := ⟨RX4, "setting", "(I)I"⟩
abbrev cX4_changeSetting : ByteArray := prog_6_method_6_code
def yX4_changeSetting : MethodName := ⟨RX4, "changeSetting", "(II)V"⟩
abbrev cX4_hasSensorOf : ByteArray := prog_6_method_7_code
def yX4_hasSensorOf : MethodName := ⟨RX4, "hasSensorOf", "(I)Z"⟩
abbrev cX4_sensorIn : ByteArray := prog_6_method_8_code
def yX4_sensorIn : MethodName := ⟨RX4, "sensorIn", "(I)I"⟩
abbrev cX4_takenSlots : ByteArray := prog_6_method_9_code
def yX4_takenSlots : MethodName := ⟨RX4, "takenSlots", "(I)I"⟩
abbrev cX4_pluggedSensors : ByteArray := prog_6_method_10_code
def yX4_pluggedSensors : MethodName := ⟨RX4, "pluggedSensors", "()I"⟩
abbrev cX4_alarmsOn : ByteArray := prog_6_method_11_code
def yX4_alarmsOn : MethodName := ⟨RX4, "alarmsOn", "()I"⟩
abbrev cX4_allReadings : ByteArray := prog_6_method_12_code
def yX4_allReadings : MethodName := ⟨RX4, "allReadings", "()I"⟩
abbrev cX4_nextPlugged : ByteArray := prog_6_method_13_code
def yX4_nextPlugged : MethodName := ⟨RX4, "nextPlugged", "()I"⟩
abbrev cX4_canBring : ByteArray := prog_6_method_14_code
def yX4_canBring : MethodName := ⟨RX4, "canBring", "(LOhmBridge$Sensor;I)Z"⟩
abbrev cX4_baseFor : ByteArray := prog_6_method_15_code
def yX4_baseFor : MethodName := ⟨RX4, "baseFor", "(LOhmBridge$Sensor;JI)J"⟩
def RX5 : String := "OhmBridge$Table"
def TX5 : u_T := fun k => match k with
  | 0 => ("OhmBridge$Table", "nodes", "I", false)
  | 1 => ("OhmBridge$Table", "temperatures", "[I", true)
  | _ => ("OhmBridge$Table", "ratios", "[I", true)
def tyX5 : Nat → FieldType := fun k => match k with
  | 0 => .int
  | 1 => .array .int
  | _ => .array .int
abbrev wsX50 : List Cond := u_ws RX5 TX5 3
theorem nmX5 : ∀ a, a < 3 → ∀ b, b < 3 → a ≠ b → (TX5 a).2.1 ≠ (TX5 b).2.1 := by decide +kernel
theorem tyX5_ok : ∀ k, k < 3 → parseFieldDescriptor (TX5 k).2.2.1 = some (tyX5 k) := by decide +kernel
abbrev cX5_init : ByteArray := prog_7_method_1_code
def yX5_init : MethodName := ⟨RX5, "<init>", "()V"⟩
abbrev cX5_copy : ByteArray := prog_7_method_2_code
def yX5_copy : MethodName := ⟨RX5, "copy", "(LOhmBridge$Table;)V"⟩
abbrev cX5_temperatureOf : ByteArray := prog_7_method_3_code
def yX5_temperatureOf : MethodName := ⟨RX5, "temperatureOf", "(I)I"⟩
abbrev cX5_ratioOf : ByteArray := prog_7_method_4_code
def yX5_ratioOf : MethodName := ⟨RX5, "ratioOf", "(I)I"⟩
abbrev cX5_mayGoOn : ByteArray := prog_7_method_5_code
def yX5_mayGoOn : MethodName := ⟨RX5, "mayGoOn", "(II)Z"⟩
abbrev cX5_append : ByteArray := prog_7_method_6_code
def yX5_append : MethodName := ⟨RX5, "append", "(II)V"⟩
abbrev cX5_goesTo : ByteArray := prog_7_method_7_code
def yX5_goesTo : MethodName := ⟨RX5, "goesTo", "(I)Z"⟩
abbrev cX5_nearest : ByteArray := prog_7_method_8_code
def yX5_nearest : MethodName := ⟨RX5, "nearest", "(I)I"⟩
abbrev cX5_ratioAt : ByteArray := prog_7_method_9_code
def yX5_ratioAt : MethodName := ⟨RX5, "ratioAt", "(I)I"⟩
abbrev cX5_temperatureFor : ByteArray := prog_7_method_10_code
def yX5_temperatureFor : MethodName := ⟨RX5, "temperatureFor", "(J)I"⟩
def RX6 : String := "OhmBridge$Text"
def TX6 : u_T := fun k => match k with
  | 0 => ("OhmBridge$Text", "length", "I", false)
  | 1 => ("OhmBridge$Text", "order", "C", false)
  | 2 => ("OhmBridge$Text", "sensor", "I", false)
  | 3 => ("OhmBridge$Text", "number", "I", false)
  | 4 => ("OhmBridge$Text", "next", "I", false)
  | _ => ("OhmBridge$Text", "characters", "[C", true)
def tyX6 : Nat → FieldType := fun k => match k with
  | 0 => .int
  | 1 => .char
  | 2 => .int
  | 3 => .int
  | 4 => .int
  | _ => .array .char
abbrev wsX60 : List Cond := u_ws RX6 TX6 6
theorem nmX6 : ∀ a, a < 6 → ∀ b, b < 6 → a ≠ b → (TX6 a).2.1 ≠ (TX6 b).2.1 := by decide +kernel
theorem tyX6_ok : ∀ k, k < 6 → parseFieldDescriptor (TX6 k).2.2.1 = some (tyX6 k) := by decide +kernel
abbrev cX6_init : ByteArray := prog_8_method_1_code
def yX6_init : MethodName := ⟨RX6, "<init>", "()V"⟩
abbrev cX6_append : ByteArray := prog_8_method_2_code
def yX6_append : MethodName := ⟨RX6, "append", "(C)V"⟩
abbrev cX6_parse : ByteArray := prog_8_method_3_code
def yX6_parse : MethodName := ⟨RX6, "parse", "(I)Z"⟩
abbrev cX6_parsesNumber : ByteArray := prog_8_method_4_code
def yX6_parsesNumber : MethodName := ⟨RX6, "parsesNumber", "()Z"⟩
abbrev cX6_parsedDigits : ByteArray := prog_8_method_5_code
def yX6_parsedDigits : MethodName := ⟨RX6, "parsedDigits", "()I"⟩
abbrev cX6_takes : ByteArray := prog_8_method_6_code
def yX6_takes : MethodName := ⟨RX6, "takes", "(C)Z"⟩
abbrev cX6_characterAt : ByteArray := prog_8_method_7_code
def yX6_characterAt : MethodName := ⟨RX6, "characterAt", "(I)C"⟩
def RX7 : String := "OhmBridge"
def TX7 : u_T := fun k => match k with
  | 0 => ("OhmBridge", "now", "LOhmBridge$State;", true)
  | 1 => ("OhmBridge", "trial", "LOhmBridge$State;", true)
  | 2 => ("OhmBridge", "history", "LOhmBridge$History;", true)
  | 3 => ("OhmBridge", "meter", "LOhmBridge$Meter;", true)
  | 4 => ("OhmBridge", "probe", "LOhmBridge$Measurement;", true)
  | 5 => ("OhmBridge", "text", "LOhmBridge$Text;", true)
  | 6 => ("OhmBridge", "sorted", "[I", true)
  | 7 => ("OhmBridge", "faultPlace", "I", false)
  | 8 => ("OhmBridge", "faultReason", "I", false)
  | _ => ("OhmBridge", "ordersDone", "I", false)
def tyX7 : Nat → FieldType := fun k => match k with
  | 0 => .object "OhmBridge$State"
  | 1 => .object "OhmBridge$State"
  | 2 => .object "OhmBridge$History"
  | 3 => .object "OhmBridge$Meter"
  | 4 => .object "OhmBridge$Measurement"
  | 5 => .object "OhmBridge$Text"
  | 6 => .array .int
  | 7 => .int
  | 8 => .int
  | _ => .int
abbrev wsX70 : List Cond := u_ws RX7 TX7 10
theorem nmX7 : ∀ a, a < 10 → ∀ b, b < 10 → a ≠ b → (TX7 a).2.1 ≠ (TX7 b).2.1 := by decide +kernel
theorem tyX7_ok : ∀ k, k < 10 → parseFieldDescriptor (TX7 k).2.2.1 = some (tyX7 k) := by decide +kernel
abbrev cX7_init : ByteArray := prog_1_method_1_code
def yX7_init : MethodName := ⟨RX7, "<init>", "()V"⟩
abbrev cX7_table : ByteArray := prog_1_method_2_code
def yX7_table : MethodName := ⟨RX7, "table", "()I"⟩
abbrev cX7_node : ByteArray := prog_1_method_3_code
def yX7_node : MethodName := ⟨RX7, "node", "(III)I"⟩
abbrev cX7_nodeAt : ByteArray := prog_1_method_4_code
def yX7_nodeAt : MethodName := ⟨RX7, "nodeAt", "(III)I"⟩
abbrev cX7_ratio : ByteArray := prog_1_method_5_code
def yX7_ratio : MethodName := ⟨RX7, "ratio", "(II)I"⟩
abbrev cX7_inverse : ByteArray := prog_1_method_6_code
def yX7_inverse : MethodName := ⟨RX7, "inverse", "(II)I"⟩
abbrev cX7_sensor : ByteArray := prog_1_method_7_code
def yX7_sensor : MethodName := ⟨RX7, "sensor", "(III)I"⟩
abbrev cX7_plug : ByteArray := prog_1_method_8_code
def yX7_plug : MethodName := ⟨RX7, "plug", "(III)I"⟩
abbrev cX7_unplug : ByteArray := prog_1_method_9_code
def yX7_unplug : MethodName := ⟨RX7, "unplug", "(I)I"⟩
abbrev cX7_slotAt : ByteArray := prog_1_method_10_code
def yX7_slotAt : MethodName := ⟨RX7, "slotAt", "(II)I"⟩
abbrev cX7_bath : ByteArray := prog_1_method_11_code
def yX7_bath : MethodName := ⟨RX7, "bath", "(II)I"⟩
abbrev cX7_lead : ByteArray := prog_1_method_12_code
def yX7_lead : MethodName := ⟨RX7, "lead", "(III)I"⟩
abbrev cX7_strain : ByteArray := prog_1_method_13_code
def yX7_strain : MethodName := ⟨RX7, "strain", "(III)I"⟩
abbrev cX7_cut : ByteArray := prog_1_method_14_code
def yX7_cut : MethodName := ⟨RX7, "cut", "(III)I"⟩
abbrev cX7_drift : ByteArray := prog_1_method_15_code
def yX7_drift : MethodName := ⟨RX7, "drift", "(II)I"⟩
abbrev cX7_calibrate : ByteArray := prog_1_method_16_code
def yX7_calibrate : MethodName := ⟨RX7, "calibrate", "(II)I"⟩
abbrev cX7_limits : ByteArray := prog_1_method_17_code
def yX7_limits : MethodName := ⟨RX7, "limits", "(IIII)I"⟩
abbrev cX7_sensorOf : ByteArray := prog_1_method_18_code
def yX7_sensorOf : MethodName := ⟨RX7, "sensorOf", "(II)I"⟩
abbrev cX7_set : ByteArray := prog_1_method_19_code
def yX7_set : MethodName := ⟨RX7, "set", "(II)I"⟩
abbrev cX7_counts : ByteArray := prog_1_method_20_code
def yX7_counts : MethodName := ⟨RX7, "counts", "(IIII)I"⟩
abbrev cX7_ohms : ByteArray := prog_1_method_21_code
def yX7_ohms : MethodName := ⟨RX7, "ohms", "(II)I"⟩
abbrev cX7_diagnosis : ByteArray := prog_1_method_22_code
def yX7_diagnosis : MethodName := ⟨RX7, "diagnosis", "(I)I"⟩
abbrev cX7_read : ByteArray := prog_1_method_23_code
def yX7_read : MethodName := ⟨RX7, "read", "(I)I"⟩
abbrev cX7_scan : ByteArray := prog_1_method_24_code
def yX7_scan : MethodName := ⟨RX7, "scan", "()I"⟩
abbrev cX7_readingAt : ByteArray := prog_1_method_25_code
def yX7_readingAt : MethodName := ⟨RX7, "readingAt", "(II)I"⟩
abbrev cX7_median : ByteArray := prog_1_method_26_code
def yX7_median : MethodName := ⟨RX7, "median", "(I)I"⟩
abbrev cX7_meanBits : ByteArray := prog_1_method_27_code
def yX7_meanBits : MethodName := ⟨RX7, "meanBits", "(I)I"⟩
abbrev cX7_count : ByteArray := prog_1_method_28_code
def yX7_count : MethodName := ⟨RX7, "count", "(I)I"⟩
abbrev cX7_undo : ByteArray := prog_1_method_29_code
def yX7_undo : MethodName := ⟨RX7, "undo", "()I"⟩
abbrev cX7_type : ByteArray := prog_1_method_30_code
def yX7_type : MethodName := ⟨RX7, "type", "(I)I"⟩
abbrev cX7_clearText : ByteArray := prog_1_method_31_code
def yX7_clearText : MethodName := ⟨RX7, "clearText", "()I"⟩
abbrev cX7_fault : ByteArray := prog_1_method_32_code
def yX7_fault : MethodName := ⟨RX7, "fault", "(I)I"⟩
abbrev cX7_play : ByteArray := prog_1_method_33_code
def yX7_play : MethodName := ⟨RX7, "play", "()I"⟩
abbrev cX7_tryOrders : ByteArray := prog_1_method_34_code
def yX7_tryOrders : MethodName := ⟨RX7, "tryOrders", "()V"⟩
abbrev cX7_obey : ByteArray := prog_1_method_35_code
def yX7_obey : MethodName := ⟨RX7, "obey", "()I"⟩
abbrev cX7_obeyBath : ByteArray := prog_1_method_36_code
def yX7_obeyBath : MethodName := ⟨RX7, "obeyBath", "(LOhmBridge$Sensor;)I"⟩
abbrev cX7_obeyCut : ByteArray := prog_1_method_37_code
def yX7_obeyCut : MethodName := ⟨RX7, "obeyCut", "(LOhmBridge$Sensor;)I"⟩
abbrev cX7_insertSorted : ByteArray := prog_1_method_38_code
def yX7_insertSorted : MethodName := ⟨RX7, "insertSorted", "(II)V"⟩
abbrev cX7_bitsOf : ByteArray := prog_1_method_39_code
def yX7_bitsOf : MethodName := ⟨RX7, "bitsOf", "(F)I"⟩
abbrev cX7_isWithin : ByteArray := prog_1_method_40_code
def yX7_isWithin : MethodName := ⟨RX7, "isWithin", "(JJJ)Z"⟩
abbrev cX7_isTemperature : ByteArray := prog_1_method_41_code
def yX7_isTemperature : MethodName := ⟨RX7, "isTemperature", "(I)Z"⟩
abbrev cX7_isBase : ByteArray := prog_1_method_42_code
def yX7_isBase : MethodName := ⟨RX7, "isBase", "(J)Z"⟩
abbrev cX7_isSlot : ByteArray := prog_1_method_43_code
def yX7_isSlot : MethodName := ⟨RX7, "isSlot", "(II)Z"⟩
abbrev cX7_isInRow : ByteArray := prog_1_method_44_code
def yX7_isInRow : MethodName := ⟨RX7, "isInRow", "(II[I[I)Z"⟩
abbrev cX7_toldPlace : ByteArray := prog_1_method_45_code
def yX7_toldPlace : MethodName := ⟨RX7, "toldPlace", "(I)I"⟩
def RX8 : String := "OhmBridgeModel"
def TX8 : u_T := fun k => match k with
  | 0 => ("OhmBridgeModel", "s", "[I", true)
  | 1 => ("OhmBridgeModel", "was", "[I", true)
  | 2 => ("OhmBridgeModel", "aside", "[I", true)
  | 3 => ("OhmBridgeModel", "begun", "[I", true)
  | 4 => ("OhmBridgeModel", "states", "I", false)
  | 5 => ("OhmBridgeModel", "text", "[C", true)
  | 6 => ("OhmBridgeModel", "typed", "I", false)
  | 7 => ("OhmBridgeModel", "at", "I", false)
  | 8 => ("OhmBridgeModel", "reason", "I", false)
  | 9 => ("OhmBridgeModel", "got", "[I", true)
  | _ => ("OhmBridgeModel", "sorted", "[I", true)
def tyX8 : Nat → FieldType := fun k => match k with
  | 0 => .array .int
  | 1 => .array .int
  | 2 => .array .int
  | 3 => .array .int
  | 4 => .int
  | 5 => .array .char
  | 6 => .int
  | 7 => .int
  | 8 => .int
  | 9 => .array .int
  | _ => .array .int
abbrev wsX80 : List Cond := u_ws RX8 TX8 11
theorem nmX8 : ∀ a, a < 11 → ∀ b, b < 11 → a ≠ b → (TX8 a).2.1 ≠ (TX8 b).2.1 := by decide +kernel
theorem tyX8_ok : ∀ k, k < 11 → parseFieldDescriptor (TX8 k).2.2.1 = some (tyX8 k) := by decide +kernel
abbrev cX8_init : ByteArray := prog_10_method_1_code
def yX8_init : MethodName := ⟨RX8, "<init>", "()V"⟩
abbrev cX8_in : ByteArray := prog_10_method_2_code
def yX8_in : MethodName := ⟨RX8, "in", "(III)Z"⟩
abbrev cX8_isDegree : ByteArray := prog_10_method_3_code
def yX8_isDegree : MethodName := ⟨RX8, "isDegree", "(I)Z"⟩
abbrev cX8_isTable : ByteArray := prog_10_method_4_code
def yX8_isTable : MethodName := ⟨RX8, "isTable", "(I)Z"⟩
abbrev cX8_isSensor : ByteArray := prog_10_method_5_code
def yX8_isSensor : MethodName := ⟨RX8, "isSensor", "(I)Z"⟩
abbrev cX8_of : ByteArray := prog_10_method_6_code
def yX8_of : MethodName := ⟨RX8, "of", "(II)I"⟩
abbrev cX8_put : ByteArray := prog_10_method_7_code
def yX8_put : MethodName := ⟨RX8, "put", "(III)V"⟩
abbrev cX8_isWire : ByteArray := prog_10_method_8_code
def yX8_isWire : MethodName := ⟨RX8, "isWire", "(II)Z"⟩
abbrev cX8_keeps : ByteArray := prog_10_method_9_code
def yX8_keeps : MethodName := ⟨RX8, "keeps", "()V"⟩
abbrev cX8_acted : ByteArray := prog_10_method_10_code
def yX8_acted : MethodName := ⟨RX8, "acted", "(I)I"⟩
abbrev cX8_nodes : ByteArray := prog_10_method_11_code
def yX8_nodes : MethodName := ⟨RX8, "nodes", "(I)I"⟩
abbrev cX8_degree : ByteArray := prog_10_method_12_code
def yX8_degree : MethodName := ⟨RX8, "degree", "(II)I"⟩
abbrev cX8_ratioOf : ByteArray := prog_10_method_13_code
def yX8_ratioOf : MethodName := ⟨RX8, "ratioOf", "(II)I"⟩
abbrev cX8_first : ByteArray := prog_10_method_14_code
def yX8_first : MethodName := ⟨RX8, "first", "(I)I"⟩
abbrev cX8_last : ByteArray := prog_10_method_15_code
def yX8_last : MethodName := ⟨RX8, "last", "(I)I"⟩
abbrev cX8_goes : ByteArray := prog_10_method_16_code
def yX8_goes : MethodName := ⟨RX8, "goes", "(II)Z"⟩
abbrev cX8_ratioAt : ByteArray := prog_10_method_17_code
def yX8_ratioAt : MethodName := ⟨RX8, "ratioAt", "(II)I"⟩
abbrev cX8_inverseOf : ByteArray := prog_10_method_18_code
def yX8_inverseOf : MethodName := ⟨RX8, "inverseOf", "(IJ)I"⟩
abbrev cX8_table : ByteArray := prog_10_method_19_code
def yX8_table : MethodName := ⟨RX8, "table", "()I"⟩
abbrev cX8_node : ByteArray := prog_10_method_20_code
def yX8_node : MethodName := ⟨RX8, "node", "(III)I"⟩
abbrev cX8_nodeAt : ByteArray := prog_10_method_21_code
def yX8_nodeAt : MethodName := ⟨RX8, "nodeAt", "(III)I"⟩
abbrev cX8_ratio : ByteArray := prog_10_method_22_code
def yX8_ratio : MethodName := ⟨RX8, "ratio", "(II)I"⟩
abbrev cX8_inverse : ByteArray := prog_10_method_23_code
def yX8_inverse : MethodName := ⟨RX8, "inverse", "(II)I"⟩
abbrev cX8_sensor : ByteArray := prog_10_method_24_code
def yX8_sensor : MethodName := ⟨RX8, "sensor", "(III)I"⟩
abbrev cX8_inside : ByteArray := prog_10_method_25_code
def yX8_inside : MethodName := ⟨RX8, "inside", "(I)I"⟩
abbrev cX8_plug : ByteArray := prog_10_method_26_code
def yX8_plug : MethodName := ⟨RX8, "plug", "(III)I"⟩
abbrev cX8_unplug : ByteArray := prog_10_method_27_code
def yX8_unplug : MethodName := ⟨RX8, "unplug", "(I)I"⟩
abbrev cX8_slotAt : ByteArray := prog_10_method_28_code
def yX8_slotAt : MethodName := ⟨RX8, "slotAt", "(II)I"⟩
abbrev cX8_baths : ByteArray := prog_10_method_29_code
def yX8_baths : MethodName := ⟨RX8, "baths", "(II)I"⟩
abbrev cX8_bath : ByteArray := prog_10_method_30_code
def yX8_bath : MethodName := ⟨RX8, "bath", "(II)I"⟩
abbrev cX8_lead : ByteArray := prog_10_method_31_code
def yX8_lead : MethodName := ⟨RX8, "lead", "(III)I"⟩
abbrev cX8_strain : ByteArray := prog_10_method_32_code
def yX8_strain : MethodName := ⟨RX8, "strain", "(III)I"⟩
abbrev cX8_bits : ByteArray := prog_10_method_33_code
def yX8_bits : MethodName := ⟨RX8, "bits", "(I)I"⟩
abbrev cX8_cuts : ByteArray := prog_10_method_34_code
def yX8_cuts : MethodName := ⟨RX8, "cuts", "(III)I"⟩
abbrev cX8_cut : ByteArray := prog_10_method_35_code
def yX8_cut : MethodName := ⟨RX8, "cut", "(III)I"⟩
abbrev cX8_isBase : ByteArray := prog_10_method_36_code
def yX8_isBase : MethodName := ⟨RX8, "isBase", "(J)Z"⟩
abbrev cX8_drift : ByteArray := prog_10_method_37_code
def yX8_drift : MethodName := ⟨RX8, "drift", "(II)I"⟩
abbrev cX8_calibrate : ByteArray := prog_10_method_38_code
def yX8_calibrate : MethodName := ⟨RX8, "calibrate", "(II)I"⟩
abbrev cX8_limits : ByteArray := prog_10_method_39_code
def yX8_limits : MethodName := ⟨RX8, "limits", "(IIII)I"⟩
abbrev cX8_sensorOf : ByteArray := prog_10_method_40_code
def yX8_sensorOf : MethodName := ⟨RX8, "sensorOf", "(II)I"⟩
abbrev cX8_least : ByteArray := prog_10_method_41_code
def yX8_least : MethodName := ⟨RX8, "least", "(I)I"⟩
abbrev cX8_most : ByteArray := prog_10_method_42_code
def yX8_most : MethodName := ⟨RX8, "most", "(I)I"⟩
abbrev cX8_set : ByteArray := prog_10_method_43_code
def yX8_set : MethodName := ⟨RX8, "set", "(II)I"⟩
abbrev cX8_resistance : ByteArray := prog_10_method_44_code
def yX8_resistance : MethodName := ⟨RX8, "resistance", "(II)J"⟩
abbrev cX8_heated : ByteArray := prog_10_method_45_code
def yX8_heated : MethodName := ⟨RX8, "heated", "(II)J"⟩
abbrev cX8_loop : ByteArray := prog_10_method_46_code
def yX8_loop : MethodName := ⟨RX8, "loop", "(II)J"⟩
abbrev cX8_countsOf : ByteArray := prog_10_method_47_code
def yX8_countsOf : MethodName := ⟨RX8, "countsOf", "(IIII)J"⟩
abbrev cX8_countsOneWay : ByteArray := prog_10_method_48_code
def yX8_countsOneWay : MethodName := ⟨RX8, "countsOneWay", "(IIII)J"⟩
abbrev cX8_byCounts : ByteArray := prog_10_method_49_code
def yX8_byCounts : MethodName := ⟨RX8, "byCounts", "(J)J"⟩
abbrev cX8_compensated : ByteArray := prog_10_method_50_code
def yX8_compensated : MethodName := ⟨RX8, "compensated", "(II)J"⟩
abbrev cX8_without : ByteArray := prog_10_method_51_code
def yX8_without : MethodName := ⟨RX8, "without", "(I)J"⟩
abbrev cX8_isBound : ByteArray := prog_10_method_52_code
def yX8_isBound : MethodName := ⟨RX8, "isBound", "(II)Z"⟩
abbrev cX8_degrees : ByteArray := prog_10_method_53_code
def yX8_degrees : MethodName := ⟨RX8, "degrees", "(I)I"⟩
abbrev cX8_size : ByteArray := prog_10_method_54_code
def yX8_size : MethodName := ⟨RX8, "size", "(I)I"⟩
abbrev cX8_diagnosed : ByteArray := prog_10_method_55_code
def yX8_diagnosed : MethodName := ⟨RX8, "diagnosed", "(I)I"⟩
abbrev cX8_counts : ByteArray := prog_10_method_56_code
def yX8_counts : MethodName := ⟨RX8, "counts", "(IIII)I"⟩
abbrev cX8_ohms : ByteArray := prog_10_method_57_code
def yX8_ohms : MethodName := ⟨RX8, "ohms", "(II)I"⟩
abbrev cX8_diagnosis : ByteArray := prog_10_method_58_code
def yX8_diagnosis : MethodName := ⟨RX8, "diagnosis", "(I)I"⟩
abbrev cX8_alarms : ByteArray := prog_10_method_59_code
def yX8_alarms : MethodName := ⟨RX8, "alarms", "(II)V"⟩
abbrev cX8_reads : ByteArray := prog_10_method_60_code
def yX8_reads : MethodName := ⟨RX8, "reads", "(I)I"⟩
abbrev cX8_read : ByteArray := prog_10_method_61_code
def yX8_read : MethodName := ⟨RX8, "read", "(I)I"⟩
abbrev cX8_scans : ByteArray := prog_10_method_62_code
def yX8_scans : MethodName := ⟨RX8, "scans", "()I"⟩
abbrev cX8_scan : ByteArray := prog_10_method_63_code
def yX8_scan : MethodName := ⟨RX8, "scan", "()I"⟩
abbrev cX8_readingAt : ByteArray := prog_10_method_64_code
def yX8_readingAt : MethodName := ⟨RX8, "readingAt", "(II)I"⟩
abbrev cX8_median : ByteArray := prog_10_method_65_code
def yX8_median : MethodName := ⟨RX8, "median", "(I)I"⟩
abbrev cX8_meanBits : ByteArray := prog_10_method_66_code
def yX8_meanBits : MethodName := ⟨RX8, "meanBits", "(I)I"⟩
abbrev cX8_count : ByteArray := prog_10_method_67_code
def yX8_count : MethodName := ⟨RX8, "count", "(I)I"⟩
abbrev cX8_undo : ByteArray := prog_10_method_68_code
def yX8_undo : MethodName := ⟨RX8, "undo", "()I"⟩
abbrev cX8_type : ByteArray := prog_10_method_69_code
def yX8_type : MethodName := ⟨RX8, "type", "(I)I"⟩
abbrev cX8_clearText : ByteArray := prog_10_method_70_code
def yX8_clearText : MethodName := ⟨RX8, "clearText", "()I"⟩
abbrev cX8_passes : ByteArray := prog_10_method_71_code
def yX8_passes : MethodName := ⟨RX8, "passes", "(C)Z"⟩
abbrev cX8_takes : ByteArray := prog_10_method_72_code
def yX8_takes : MethodName := ⟨RX8, "takes", "(I)Z"⟩
abbrev cX8_readsForm : ByteArray := prog_10_method_73_code
def yX8_readsForm : MethodName := ⟨RX8, "readsForm", "(C)Z"⟩
abbrev cX8_does : ByteArray := prog_10_method_74_code
def yX8_does : MethodName := ⟨RX8, "does", "(C)I"⟩
abbrev cX8_doesNext : ByteArray := prog_10_method_75_code
def yX8_doesNext : MethodName := ⟨RX8, "doesNext", "()I"⟩
abbrev cX8_faulty : ByteArray := prog_10_method_76_code
def yX8_faulty : MethodName := ⟨RX8, "faulty", "()I"⟩
abbrev cX8_fault : ByteArray := prog_10_method_77_code
def yX8_fault : MethodName := ⟨RX8, "fault", "(I)I"⟩
abbrev cX8_play : ByteArray := prog_10_method_78_code
def yX8_play : MethodName := ⟨RX8, "play", "()I"⟩
def RJxf58ca : String := "java/lang/Float"
def TJxf58ca : u_T := fun k => match k with
  | _ => ("", "", "", false)
def tyJxf58ca : Nat → FieldType := fun k => match k with
  | _ => .int
abbrev wsJxf58ca0 : List Cond := u_ws RJxf58ca TJxf58ca 0
theorem nmJxf58ca : ∀ a, a < 0 → ∀ b, b < 0 → a ≠ b → (TJxf58ca a).2.1 ≠ (TJxf58ca b).2.1 := by decide +kernel
theorem tyJxf58ca_ok : ∀ k, k < 0 → parseFieldDescriptor (TJxf58ca k).2.2.1 = some (tyJxf58ca k) := by decide +kernel
abbrev cJxf58ca_isNaN_12338 : ByteArray := prog_11_method_6_code
def yJxf58ca_isNaN_12338 : MethodName := ⟨RJxf58ca, "isNaN", "(F)Z"⟩
abbrev cJxf58ca_floatToIntBits_5c35a : ByteArray := prog_11_method_24_code
def yJxf58ca_floatToIntBits_5c35a : MethodName := ⟨RJxf58ca, "floatToIntBits", "(F)I"⟩
def RJ6 : String := "java/lang/Integer"
def TJ6 : u_T := fun k => match k with
  | _ => ("", "", "", false)
def tyJ6 : Nat → FieldType := fun k => match k with
  | _ => .int
abbrev wsJ60 : List Cond := u_ws RJ6 TJ6 0
theorem nmJ6 : ∀ a, a < 0 → ∀ b, b < 0 → a ≠ b → (TJ6 a).2.1 ≠ (TJ6 b).2.1 := by decide +kernel
theorem tyJ6_ok : ∀ k, k < 0 → parseFieldDescriptor (TJ6 k).2.2.1 = some (tyJ6 k) := by decide +kernel
abbrev cJ6_bitCount_0f7a4 : ByteArray := prog_12_method_49_code
def yJ6_bitCount_0f7a4 : MethodName := ⟨RJ6, "bitCount", "(I)I"⟩
def RJ9 : String := "java/lang/Math"
def TJ9 : u_T := fun k => match k with
  | _ => ("", "", "", false)
def tyJ9 : Nat → FieldType := fun k => match k with
  | _ => .int
abbrev wsJ90 : List Cond := u_ws RJ9 TJ9 0
theorem nmJ9 : ∀ a, a < 0 → ∀ b, b < 0 → a ≠ b → (TJ9 a).2.1 ≠ (TJ9 b).2.1 := by decide +kernel
theorem tyJ9_ok : ∀ k, k < 0 → parseFieldDescriptor (TJ9 k).2.2.1 = some (tyJ9 k) := by decide +kernel
abbrev cJ9_abs_0f7a4 : ByteArray := prog_13_method_59_code
def yJ9_abs_0f7a4 : MethodName := ⟨RJ9, "abs", "(I)I"⟩
abbrev cJ9_max_7cf53 : ByteArray := prog_13_method_65_code
def yJ9_max_7cf53 : MethodName := ⟨RJ9, "max", "(II)I"⟩
abbrev cJ9_max_f86c9 : ByteArray := prog_13_method_66_code
def yJ9_max_f86c9 : MethodName := ⟨RJ9, "max", "(JJ)J"⟩
abbrev cJ9_min_7cf53 : ByteArray := prog_13_method_69_code
def yJ9_min_7cf53 : MethodName := ⟨RJ9, "min", "(II)I"⟩
abbrev cJ9_min_f86c9 : ByteArray := prog_13_method_70_code
def yJ9_min_f86c9 : MethodName := ⟨RJ9, "min", "(JJ)J"⟩
def RJ10 : String := "java/lang/System"
def TJ10 : u_T := fun k => match k with
  | _ => ("", "", "", false)
def tyJ10 : Nat → FieldType := fun k => match k with
  | _ => .int
abbrev wsJ100 : List Cond := u_ws RJ10 TJ10 0
theorem nmJ10 : ∀ a, a < 0 → ∀ b, b < 0 → a ≠ b → (TJ10 a).2.1 ≠ (TJ10 b).2.1 := by decide +kernel
theorem tyJ10_ok : ∀ k, k < 0 → parseFieldDescriptor (TJ10 k).2.2.1 = some (tyJ10 k) := by decide +kernel
def RL : String := "OhmBridgeLaw"
abbrev cL_law : ByteArray := code
def yL_law : MethodName := ⟨RL, "law", "([I)Z"⟩
def wsL_law_r1 : List Cond := [Cond.classLink RL 7 RX7, Cond.instantiable RX7 10, Cond.initialized RX7, Cond.classLink RL 10 RX8, Cond.instantiable RX8 11, Cond.initialized RX8, Cond.methodLink RL 9 yX7_init, Cond.instanceMethod yX7_init, Cond.code yX7_init cX7_init 1 none, Cond.methodLink RX7 1 objectInit, Cond.instanceMethod objectInit, Cond.code objectInit ⟨#[0xb1]⟩ 1 none, Cond.classLink RX7 7 RX4, Cond.instantiable RX4 6, Cond.initialized RX4, Cond.fieldLink RX7 10 "OhmBridge" "now" "LOhmBridge$State;", Cond.fieldLink RX7 16 "OhmBridge" "trial" "LOhmBridge$State;", Cond.classLink RX7 19 RX0, Cond.instantiable RX0 2, Cond.initialized RX0, Cond.fieldLink RX7 22 "OhmBridge" "history" "LOhmBridge$History;", Cond.classLink RX7 26 RX2, Cond.instantiable RX2 5, Cond.initialized RX2]
def wsL_law_r2 : List Cond := [Cond.fieldLink RX7 29 "OhmBridge" "meter" "LOhmBridge$Meter;", Cond.classLink RX7 33 RX1, Cond.instantiable RX1 11, Cond.initialized RX1, Cond.fieldLink RX7 36 "OhmBridge" "probe" "LOhmBridge$Measurement;", Cond.classLink RX7 40 RX6, Cond.instantiable RX6 6, Cond.initialized RX6, Cond.fieldLink RX7 43 "OhmBridge" "text" "LOhmBridge$Text;", Cond.arrayClass .int, Cond.fieldLink RX7 47 "OhmBridge" "sorted" "[I", Cond.methodLink RX7 9 yX4_init, Cond.instanceMethod yX4_init, Cond.code yX4_init cX4_init 2 none, Cond.methodLink RX4 3 objectInit, Cond.fieldLink RX4 9 "OhmBridge$State" "scanner" "I", Cond.classLink RX4 15 RX5, Cond.fieldLink RX4 17 "OhmBridge$State" "tables" "[LOhmBridge$Table;", Cond.classLink RX4 21 RX3, Cond.fieldLink RX4 23 "OhmBridge$State" "sensors" "[LOhmBridge$Sensor;", Cond.fieldLink RX4 27 "OhmBridge$State" "settings" "[I", Cond.instantiable RX5 3, Cond.initialized RX5, Cond.instantiable RX3 15]
def wsL_law_r3 : List Cond := [Cond.initialized RX3, Cond.methodLink RX4 36 arraycopyName, Cond.native arraycopyName, Cond.static arraycopyName, Cond.initialized "java/lang/System", Cond.instanceMethod yX5_init, Cond.code yX5_init cX5_init 1 none, Cond.methodLink RX5 3 objectInit, Cond.fieldLink RX5 9 "OhmBridge$Table" "temperatures" "[I", Cond.fieldLink RX5 15 "OhmBridge$Table" "ratios" "[I", Cond.instanceMethod yX3_init, Cond.code yX3_init cX3_init 1 none, Cond.methodLink RX3 3 objectInit, Cond.fieldLink RX3 9 "OhmBridge$Sensor" "place" "I", Cond.fieldLink RX3 15 "OhmBridge$Sensor" "leads" "[I", Cond.fieldLink RX3 19 "OhmBridge$Sensor" "strains" "[I", Cond.fieldLink RX3 22 "OhmBridge$Sensor" "latest" "[I", Cond.methodLink RX7 21 yX0_init, Cond.instanceMethod yX0_init, Cond.code yX0_init cX0_init 2 none, Cond.methodLink RX0 3 objectInit, Cond.classLink RX0 9 RX4, Cond.fieldLink RX0 11 "OhmBridge$History" "kept" "[LOhmBridge$State;", Cond.methodLink RX0 17 yX4_init]
def wsL_law_r4 : List Cond := [Cond.instanceMethod yX2_init, Cond.code yX2_init cX2_init 1 none, Cond.methodLink RX2 3 objectInit, Cond.classLink RX2 9 RX1, Cond.fieldLink RX2 12 "OhmBridge$Meter" "first" "LOhmBridge$Measurement;", Cond.fieldLink RX2 18 "OhmBridge$Meter" "second" "LOhmBridge$Measurement;", Cond.instanceMethod yX1_init, Cond.code yX1_init cX1_init 1 none, Cond.methodLink RX1 3 objectInit, Cond.instanceMethod yX6_init, Cond.code yX6_init cX6_init 1 none, Cond.methodLink RX6 3 objectInit, Cond.arrayClass .char, Cond.fieldLink RX6 9 "OhmBridge$Text" "characters" "[C", Cond.methodLink RL 12 yX8_init, Cond.instanceMethod yX8_init, Cond.code yX8_init cX8_init 1 none, Cond.methodLink RX8 1 objectInit, Cond.fieldLink RX8 7 "OhmBridgeModel" "s" "[I", Cond.fieldLink RX8 13 "OhmBridgeModel" "was" "[I", Cond.fieldLink RX8 16 "OhmBridgeModel" "aside" "[I", Cond.fieldLink RX8 19 "OhmBridgeModel" "begun" "[I", Cond.fieldLink RX8 22 "OhmBridgeModel" "text" "[C", Cond.fieldLink RX8 26 "OhmBridgeModel" "got" "[I"]
def wsL_law_r5 : List Cond := [Cond.fieldLink RX8 29 "OhmBridgeModel" "sorted" "[I", Cond.constant RX8 32 (100000), Cond.methodLink RL 13 yX7_table, Cond.instanceMethod yX7_table, Cond.selects RX7 yX7_table yX7_table, Cond.code yX7_table cX7_table 1 (some .int), Cond.fieldLink RX7 51 "OhmBridge$State" "tableCount" "I", Cond.constant RX7 55 (-2000000003), Cond.methodLink RX7 56 yX0_record, Cond.instanceMethod yX0_record, Cond.selects RX0 yX0_record yX0_record, Cond.code yX0_record cX0_record 2 none, Cond.fieldLink RX0 18 "OhmBridge$History" "size" "I", Cond.methodLink RX0 22 yX0_dropOldest, Cond.instanceMethod yX0_dropOldest, Cond.selects RX0 yX0_dropOldest yX0_dropOldest, Cond.code yX0_dropOldest cX0_dropOldest 3 none, Cond.methodLink RX0 25 yX4_copy, Cond.instanceMethod yX4_copy, Cond.selects RX4 yX4_copy yX4_copy, Cond.code yX4_copy cX4_copy 3 none, Cond.fieldLink RX4 42 "OhmBridge$State" "tableCount" "I", Cond.fieldLink RX4 45 "OhmBridge$State" "sensorCount" "I", Cond.methodLink RX4 48 yX5_copy]
def wsL_law_r6 : List Cond := [Cond.instanceMethod yX5_copy, Cond.selects RX5 yX5_copy yX5_copy, Cond.code yX5_copy cX5_copy 2 none, Cond.fieldLink RX5 18 "OhmBridge$Table" "nodes" "I", Cond.methodLink RX5 22 arraycopyName, Cond.methodLink RX4 52 yX3_copy, Cond.instanceMethod yX3_copy, Cond.selects RX3 yX3_copy yX3_copy, Cond.code yX3_copy cX3_copy 2 none, Cond.fieldLink RX3 25 "OhmBridge$Sensor" "table" "I", Cond.fieldLink RX3 28 "OhmBridge$Sensor" "wires" "I", Cond.fieldLink RX3 31 "OhmBridge$Sensor" "trueBase" "I", Cond.fieldLink RX3 34 "OhmBridge$Sensor" "assumedBase" "I", Cond.fieldLink RX3 37 "OhmBridge$Sensor" "temperature" "I", Cond.fieldLink RX3 46 "OhmBridge$Sensor" "brokenWires" "I", Cond.fieldLink RX3 49 "OhmBridge$Sensor" "low" "I", Cond.fieldLink RX3 52 "OhmBridge$Sensor" "high" "I", Cond.fieldLink RX3 55 "OhmBridge$Sensor" "hysteresis" "I", Cond.fieldLink RX3 58 "OhmBridge$Sensor" "alarm" "I", Cond.fieldLink RX3 61 "OhmBridge$Sensor" "readings" "I", Cond.methodLink RX3 64 arraycopyName, Cond.methodLink RL 17 yX8_table, Cond.instanceMethod yX8_table, Cond.selects RX8 yX8_table yX8_table]
def wsL_law_r7 : List Cond := [Cond.code yX8_table cX8_table 1 (some .int), Cond.constant RX8 72 (-2000000003), Cond.methodLink RX8 73 yX8_keeps, Cond.instanceMethod yX8_keeps, Cond.selects RX8 yX8_keeps yX8_keeps, Cond.code yX8_keeps cX8_keeps 2 none, Cond.methodLink RX8 76 yX8_acted, Cond.instanceMethod yX8_acted, Cond.selects RX8 yX8_acted yX8_acted, Cond.code yX8_acted cX8_acted 3 (some .int), Cond.constant RX8 47 (-2000000001), Cond.fieldLink RX8 48 "OhmBridgeModel" "states" "I", Cond.methodLink RL 18 yX7_node, Cond.instanceMethod yX7_node, Cond.selects RX7 yX7_node yX7_node, Cond.code yX7_node cX7_node 5 (some .int), Cond.constantLong RX7 68 (10000000), Cond.constant RX7 74 (-2000000001), Cond.constant RX7 84 (-2000000002), Cond.fieldLink RX7 85 "OhmBridge$Table" "nodes" "I", Cond.methodLink RX7 60 yX4_tableAt, Cond.instanceMethod yX4_tableAt, Cond.selects RX4 yX4_tableAt yX4_tableAt, Cond.code yX4_tableAt cX4_tableAt 3 (some (.object "OhmBridge$Table"))]
def wsL_law_r8 : List Cond := [Cond.methodLink RX7 64 yX7_isTemperature, Cond.static yX7_isTemperature, Cond.code yX7_isTemperature cX7_isTemperature 1 (some .boolean), Cond.constantLong RX7 432 (-200000), Cond.constantLong RX7 232 (850000), Cond.methodLink RX7 70 yX7_isWithin, Cond.static yX7_isWithin, Cond.code yX7_isWithin cX7_isWithin 6 (some .boolean), Cond.methodLink RX7 75 yX4_hasSensorOf, Cond.instanceMethod yX4_hasSensorOf, Cond.selects RX4 yX4_hasSensorOf yX4_hasSensorOf, Cond.code yX4_hasSensorOf cX4_hasSensorOf 3 (some .boolean), Cond.fieldLink RX4 55 "OhmBridge$Sensor" "table" "I", Cond.methodLink RX7 78 yX5_mayGoOn, Cond.instanceMethod yX5_mayGoOn, Cond.selects RX5 yX5_mayGoOn yX5_mayGoOn, Cond.code yX5_mayGoOn cX5_mayGoOn 3 (some .boolean), Cond.methodLink RX5 28 yX5_temperatureOf, Cond.instanceMethod yX5_temperatureOf, Cond.selects RX5 yX5_temperatureOf yX5_temperatureOf, Cond.code yX5_temperatureOf cX5_temperatureOf 2 (some .int), Cond.methodLink RX5 32 yX5_ratioOf, Cond.instanceMethod yX5_ratioOf, Cond.selects RX5 yX5_ratioOf yX5_ratioOf]
def wsL_law_r9 : List Cond := [Cond.code yX5_ratioOf cX5_ratioOf 2 (some .int), Cond.methodLink RX7 88 yX5_append, Cond.instanceMethod yX5_append, Cond.selects RX5 yX5_append yX5_append, Cond.code yX5_append cX5_append 3 none, Cond.methodLink RL 22 yX8_node, Cond.instanceMethod yX8_node, Cond.selects RX8 yX8_node yX8_node, Cond.code yX8_node cX8_node 7 (some .int), Cond.constant RX8 85 (10000000), Cond.constant RX8 86 (-2000000002), Cond.methodLink RX8 79 yX8_isTable, Cond.instanceMethod yX8_isTable, Cond.selects RX8 yX8_isTable yX8_isTable, Cond.code yX8_isTable cX8_isTable 2 (some .boolean), Cond.methodLink RX8 35 yX8_in, Cond.static yX8_in, Cond.code yX8_in cX8_in 3 (some .boolean), Cond.methodLink RX8 82 yX8_isDegree, Cond.static yX8_isDegree, Cond.code yX8_isDegree cX8_isDegree 1 (some .boolean), Cond.constant RX8 33 (-200000), Cond.constant RX8 34 (850000), Cond.methodLink RX8 55 yX8_nodes]
def wsL_law_r10 : List Cond := [Cond.instanceMethod yX8_nodes, Cond.selects RX8 yX8_nodes yX8_nodes, Cond.code yX8_nodes cX8_nodes 2 (some .int), Cond.methodLink RX8 52 yX8_degree, Cond.instanceMethod yX8_degree, Cond.selects RX8 yX8_degree yX8_degree, Cond.code yX8_degree cX8_degree 3 (some .int), Cond.methodLink RX8 65 yX8_ratioOf, Cond.instanceMethod yX8_ratioOf, Cond.selects RX8 yX8_ratioOf yX8_ratioOf, Cond.code yX8_ratioOf cX8_ratioOf 3 (some .int), Cond.methodLink RX8 43 yX8_of, Cond.instanceMethod yX8_of, Cond.selects RX8 yX8_of yX8_of, Cond.code yX8_of cX8_of 3 (some .int), Cond.methodLink RL 23 yX7_nodeAt, Cond.instanceMethod yX7_nodeAt, Cond.selects RX7 yX7_nodeAt yX7_nodeAt, Cond.code yX7_nodeAt cX7_nodeAt 5 (some .int), Cond.constant RX7 92 (-2000000004), Cond.methodLink RX7 93 yX5_temperatureOf, Cond.methodLink RX7 97 yX5_ratioOf, Cond.methodLink RL 26 yX8_nodeAt, Cond.instanceMethod yX8_nodeAt]
def wsL_law_r11 : List Cond := [Cond.selects RX8 yX8_nodeAt yX8_nodeAt, Cond.code yX8_nodeAt cX8_nodeAt 4 (some .int), Cond.constant RX8 68 (-2000000004), Cond.methodLink RL 27 yX7_ratio, Cond.instanceMethod yX7_ratio, Cond.selects RX7 yX7_ratio yX7_ratio, Cond.code yX7_ratio cX7_ratio 4 (some .int), Cond.methodLink RX7 100 yX5_goesTo, Cond.instanceMethod yX5_goesTo, Cond.selects RX5 yX5_goesTo yX5_goesTo, Cond.code yX5_goesTo cX5_goesTo 2 (some .boolean), Cond.methodLink RX7 103 yX5_ratioAt, Cond.instanceMethod yX5_ratioAt, Cond.selects RX5 yX5_ratioAt yX5_ratioAt, Cond.code yX5_ratioAt cX5_ratioAt 9 (some .int), Cond.methodLink RL 31 yX8_ratio, Cond.instanceMethod yX8_ratio, Cond.selects RX8 yX8_ratio yX8_ratio, Cond.code yX8_ratio cX8_ratio 3 (some .int), Cond.methodLink RX8 87 yX8_goes, Cond.instanceMethod yX8_goes, Cond.selects RX8 yX8_goes yX8_goes, Cond.code yX8_goes cX8_goes 3 (some .boolean), Cond.methodLink RX8 59 yX8_first]
def wsL_law_r12 : List Cond := [Cond.instanceMethod yX8_first, Cond.selects RX8 yX8_first yX8_first, Cond.code yX8_first cX8_first 2 (some .int), Cond.methodLink RX8 62 yX8_last, Cond.instanceMethod yX8_last, Cond.selects RX8 yX8_last yX8_last, Cond.code yX8_last cX8_last 2 (some .int), Cond.methodLink RX8 69 yX8_ratioAt, Cond.instanceMethod yX8_ratioAt, Cond.selects RX8 yX8_ratioAt yX8_ratioAt, Cond.code yX8_ratioAt cX8_ratioAt 6 (some .int), Cond.methodLink RL 32 yX7_inverse, Cond.instanceMethod yX7_inverse, Cond.selects RX7 yX7_inverse yX7_inverse, Cond.code yX7_inverse cX7_inverse 4 (some .int), Cond.methodLink RX7 106 yX5_temperatureFor, Cond.instanceMethod yX5_temperatureFor, Cond.selects RX5 yX5_temperatureFor yX5_temperatureFor, Cond.code yX5_temperatureFor cX5_temperatureFor 7 (some .int), Cond.constant RX5 44 (-2000000004), Cond.methodLink RX5 45 yX5_ratioAt, Cond.methodLink RL 35 yX8_inverse, Cond.instanceMethod yX8_inverse, Cond.selects RX8 yX8_inverse yX8_inverse]
def wsL_law_r13 : List Cond := [Cond.code yX8_inverse cX8_inverse 3 (some .int), Cond.methodLink RX8 91 yX8_inverseOf, Cond.instanceMethod yX8_inverseOf, Cond.selects RX8 yX8_inverseOf yX8_inverseOf, Cond.code yX8_inverseOf cX8_inverseOf 7 (some .int), Cond.methodLink RL 36 yX7_sensor, Cond.instanceMethod yX7_sensor, Cond.selects RX7 yX7_sensor yX7_sensor, Cond.code yX7_sensor cX7_sensor 6 (some .int), Cond.constantLong RX7 110 (2), Cond.constantLong RX7 112 (4), Cond.fieldLink RX7 118 "OhmBridge$State" "sensorCount" "I", Cond.methodLink RX7 114 yX7_isBase, Cond.static yX7_isBase, Cond.code yX7_isBase cX7_isBase 2 (some .boolean), Cond.constantLong RX7 434 (1000), Cond.constantLong RX7 436 (2000000), Cond.methodLink RX7 121 yX4_sensorAt, Cond.instanceMethod yX4_sensorAt, Cond.selects RX4 yX4_sensorAt yX4_sensorAt, Cond.code yX4_sensorAt cX4_sensorAt 3 (some (.object "OhmBridge$Sensor")), Cond.methodLink RX7 125 yX5_nearest, Cond.instanceMethod yX5_nearest, Cond.selects RX5 yX5_nearest yX5_nearest]
def wsL_law_r14 : List Cond := [Cond.code yX5_nearest cX5_nearest 2 (some .int), Cond.methodLink RX5 35 Lib.Math.max.name, Cond.static Lib.Math.max.name, Cond.initialized "java/lang/Math", Cond.code Lib.Math.max.name Lib.Math.max.code 2 (some .int), Cond.methodLink RX5 41 Lib.Math.min.name, Cond.static Lib.Math.min.name, Cond.code Lib.Math.min.name Lib.Math.min.code 2 (some .int), Cond.methodLink RX7 128 yX3_begin, Cond.instanceMethod yX3_begin, Cond.selects RX3 yX3_begin yX3_begin, Cond.code yX3_begin cX3_begin 5 none, Cond.constant RX3 40 (-200000), Cond.constant RX3 41 (850000), Cond.methodLink RX3 42 yX3_watch, Cond.instanceMethod yX3_watch, Cond.selects RX3 yX3_watch yX3_watch, Cond.code yX3_watch cX3_watch 4 none, Cond.methodLink RL 39 yX8_sensor, Cond.instanceMethod yX8_sensor, Cond.selects RX8 yX8_sensor yX8_sensor, Cond.code yX8_sensor cX8_sensor 6 (some .int), Cond.constant RX8 95 (2000000), Cond.methodLink RX8 96 yX8_put]
def wsL_law_r15 : List Cond := [Cond.instanceMethod yX8_put, Cond.selects RX8 yX8_put yX8_put, Cond.code yX8_put cX8_put 4 none, Cond.methodLink RL 40 yX7_plug, Cond.instanceMethod yX7_plug, Cond.selects RX7 yX7_plug yX7_plug, Cond.code yX7_plug cX7_plug 6 (some .int), Cond.fieldLink RX7 147 "OhmBridge$Sensor" "place" "I", Cond.methodLink RX7 134 yX7_isSlot, Cond.static yX7_isSlot, Cond.code yX7_isSlot cX7_isSlot 2 (some .boolean), Cond.constantLong RX7 438 (3), Cond.methodLink RX7 137 yX3_isPlugged, Cond.instanceMethod yX3_isPlugged, Cond.selects RX3 yX3_isPlugged yX3_isPlugged, Cond.code yX3_isPlugged cX3_isPlugged 1 (some .boolean), Cond.methodLink RX7 141 yX4_sensorIn, Cond.instanceMethod yX4_sensorIn, Cond.selects RX4 yX4_sensorIn yX4_sensorIn, Cond.code yX4_sensorIn cX4_sensorIn 3 (some .int), Cond.fieldLink RX4 58 "OhmBridge$Sensor" "place" "I", Cond.methodLink RX7 144 yX3_fits, Cond.instanceMethod yX3_fits, Cond.selects RX3 yX3_fits yX3_fits]
def wsL_law_r16 : List Cond := [Cond.code yX3_fits cX3_fits 2 (some .boolean), Cond.methodLink RX7 150 yX4_takenSlots, Cond.instanceMethod yX4_takenSlots, Cond.selects RX4 yX4_takenSlots yX4_takenSlots, Cond.code yX4_takenSlots cX4_takenSlots 4 (some .int), Cond.methodLink RX4 61 yX4_sensorIn, Cond.methodLink RL 43 yX8_plug, Cond.instanceMethod yX8_plug, Cond.selects RX8 yX8_plug yX8_plug, Cond.code yX8_plug cX8_plug 6 (some .int), Cond.methodLink RX8 39 yX8_isSensor, Cond.instanceMethod yX8_isSensor, Cond.selects RX8 yX8_isSensor yX8_isSensor, Cond.code yX8_isSensor cX8_isSensor 2 (some .boolean), Cond.methodLink RX8 100 yX8_inside, Cond.instanceMethod yX8_inside, Cond.selects RX8 yX8_inside yX8_inside, Cond.code yX8_inside cX8_inside 3 (some .int), Cond.methodLink RL 44 yX7_unplug, Cond.instanceMethod yX7_unplug, Cond.selects RX7 yX7_unplug yX7_unplug, Cond.code yX7_unplug cX7_unplug 4 (some .int), Cond.methodLink RX7 153 yX7_toldPlace, Cond.static yX7_toldPlace]
def wsL_law_r17 : List Cond := [Cond.code yX7_toldPlace cX7_toldPlace 1 (some .int), Cond.methodLink RL 48 yX8_unplug, Cond.instanceMethod yX8_unplug, Cond.selects RX8 yX8_unplug yX8_unplug, Cond.code yX8_unplug cX8_unplug 3 (some .int), Cond.methodLink RL 49 yX7_slotAt, Cond.instanceMethod yX7_slotAt, Cond.selects RX7 yX7_slotAt yX7_slotAt, Cond.code yX7_slotAt cX7_slotAt 4 (some .int), Cond.methodLink RL 52 yX8_slotAt, Cond.instanceMethod yX8_slotAt, Cond.selects RX8 yX8_slotAt yX8_slotAt, Cond.code yX8_slotAt cX8_slotAt 4 (some .int), Cond.methodLink RL 53 yX7_bath, Cond.instanceMethod yX7_bath, Cond.selects RX7 yX7_bath yX7_bath, Cond.code yX7_bath cX7_bath 5 (some .int), Cond.fieldLink RX7 160 "OhmBridge$Sensor" "temperature" "I", Cond.methodLink RX7 156 yX4_canBring, Cond.instanceMethod yX4_canBring, Cond.selects RX4 yX4_canBring yX4_canBring, Cond.code yX4_canBring cX4_canBring 4 (some .boolean), Cond.methodLink RX4 74 yX4_tableAt, Cond.methodLink RX4 78 yX5_goesTo]
def wsL_law_r18 : List Cond := [Cond.methodLink RL 56 yX8_bath, Cond.instanceMethod yX8_bath, Cond.selects RX8 yX8_bath yX8_bath, Cond.code yX8_bath cX8_bath 3 (some .int), Cond.methodLink RX8 103 yX8_baths, Cond.instanceMethod yX8_baths, Cond.selects RX8 yX8_baths yX8_baths, Cond.code yX8_baths cX8_baths 4 (some .int), Cond.methodLink RL 57 yX7_lead, Cond.instanceMethod yX7_lead, Cond.selects RX7 yX7_lead yX7_lead, Cond.code yX7_lead cX7_lead 6 (some .int), Cond.constantLong RX7 166 (50000), Cond.methodLink RX7 163 yX3_hasWire, Cond.instanceMethod yX3_hasWire, Cond.selects RX3 yX3_hasWire yX3_hasWire, Cond.code yX3_hasWire cX3_hasWire 2 (some .boolean), Cond.methodLink RX7 168 yX3_leadOf, Cond.instanceMethod yX3_leadOf, Cond.selects RX3 yX3_leadOf yX3_leadOf, Cond.code yX3_leadOf cX3_leadOf 2 (some .int), Cond.methodLink RX7 171 yX3_setLead, Cond.instanceMethod yX3_setLead, Cond.selects RX3 yX3_setLead yX3_setLead]
def wsL_law_r19 : List Cond := [Cond.code yX3_setLead cX3_setLead 3 none, Cond.methodLink RL 60 yX8_lead, Cond.instanceMethod yX8_lead, Cond.selects RX8 yX8_lead yX8_lead, Cond.code yX8_lead cX8_lead 5 (some .int), Cond.constant RX8 109 (50000), Cond.methodLink RX8 106 yX8_isWire, Cond.instanceMethod yX8_isWire, Cond.selects RX8 yX8_isWire yX8_isWire, Cond.code yX8_isWire cX8_isWire 3 (some .boolean), Cond.methodLink RL 61 yX7_strain, Cond.instanceMethod yX7_strain, Cond.selects RX7 yX7_strain yX7_strain, Cond.code yX7_strain cX7_strain 6 (some .int), Cond.fieldLink RX7 174 "OhmBridge" "LEAST_STRAIN" "[I", Cond.fieldLink RX7 177 "OhmBridge" "GREATEST_STRAIN" "[I", Cond.methodLink RX7 180 yX7_isInRow, Cond.static yX7_isInRow, Cond.code yX7_isInRow cX7_isInRow 4 (some .boolean), Cond.methodLink RX7 184 yX3_strainOf, Cond.instanceMethod yX3_strainOf, Cond.selects RX3 yX3_strainOf yX3_strainOf, Cond.code yX3_strainOf cX3_strainOf 2 (some .int), Cond.methodLink RX7 187 yX3_setStrain]
def wsL_law_r20 : List Cond := [Cond.instanceMethod yX3_setStrain, Cond.selects RX3 yX3_setStrain yX3_setStrain, Cond.code yX3_setStrain cX3_setStrain 3 none, Cond.methodLink RL 64 yX8_strain, Cond.instanceMethod yX8_strain, Cond.selects RX8 yX8_strain yX8_strain, Cond.code yX8_strain cX8_strain 5 (some .int), Cond.constant RX8 110 (-100000), Cond.methodLink RL 65 yX7_cut, Cond.instanceMethod yX7_cut, Cond.selects RX7 yX7_cut yX7_cut, Cond.code yX7_cut cX7_cut 5 (some .int), Cond.fieldLink RX7 197 "OhmBridge$Sensor" "brokenWires" "I", Cond.methodLink RX7 190 yX3_isBroken, Cond.instanceMethod yX3_isBroken, Cond.selects RX3 yX3_isBroken yX3_isBroken, Cond.code yX3_isBroken cX3_isBroken 2 (some .boolean), Cond.methodLink RX7 193 yX3_turnWire, Cond.instanceMethod yX3_turnWire, Cond.selects RX3 yX3_turnWire yX3_turnWire, Cond.code yX3_turnWire cX3_turnWire 2 none, Cond.methodLink RX7 200 yJ6_bitCount_0f7a4, Cond.static yJ6_bitCount_0f7a4, Cond.initialized RJ6]
def wsL_law_r21 : List Cond := [Cond.code yJ6_bitCount_0f7a4 cJ6_bitCount_0f7a4 1 (some .int), Cond.constant RJ6 265 (1431655765), Cond.constant RJ6 266 (858993459), Cond.constant RJ6 267 (252645135), Cond.methodLink RL 68 yX8_cut, Cond.instanceMethod yX8_cut, Cond.selects RX8 yX8_cut yX8_cut, Cond.code yX8_cut cX8_cut 4 (some .int), Cond.methodLink RX8 114 yX8_cuts, Cond.instanceMethod yX8_cuts, Cond.selects RX8 yX8_cuts yX8_cuts, Cond.code yX8_cuts cX8_cuts 4 (some .int), Cond.methodLink RX8 111 yX8_bits, Cond.static yX8_bits, Cond.code yX8_bits cX8_bits 1 (some .int), Cond.methodLink RL 69 yX7_drift, Cond.instanceMethod yX7_drift, Cond.selects RX7 yX7_drift yX7_drift, Cond.code yX7_drift cX7_drift 6 (some .int), Cond.constantLong RX7 205 (-100000), Cond.constantLong RX7 207 (100000), Cond.fieldLink RX7 209 "OhmBridge$Sensor" "trueBase" "I", Cond.constantLong RX7 212 (1000000), Cond.methodLink RL 72 yX8_drift]
def wsL_law_r22 : List Cond := [Cond.instanceMethod yX8_drift, Cond.selects RX8 yX8_drift yX8_drift, Cond.code yX8_drift cX8_drift 5 (some .int), Cond.constantLong RX8 122 (1000000), Cond.methodLink RX8 124 yX8_isBase, Cond.static yX8_isBase, Cond.code yX8_isBase cX8_isBase 2 (some .boolean), Cond.constantLong RX8 118 (1000), Cond.constantLong RX8 120 (2000000), Cond.methodLink RL 73 yX7_calibrate, Cond.instanceMethod yX7_calibrate, Cond.selects RX7 yX7_calibrate yX7_calibrate, Cond.code yX7_calibrate cX7_calibrate 7 (some .int), Cond.fieldLink RX7 218 "OhmBridge$Meter" "diagnosed" "I", Cond.fieldLink RX7 221 "OhmBridge$Meter" "withoutPower" "J", Cond.fieldLink RX7 229 "OhmBridge$Sensor" "assumedBase" "I", Cond.methodLink RX7 214 yX2_measure, Cond.instanceMethod yX2_measure, Cond.selects RX2 yX2_measure yX2_measure, Cond.code yX2_measure cX2_measure 7 none, Cond.fieldLink RX2 35 "OhmBridge$Meter" "withoutPower" "J", Cond.fieldLink RX2 39 "OhmBridge$Sensor" "table" "I", Cond.fieldLink RX2 49 "OhmBridge$Sensor" "assumedBase" "I", Cond.fieldLink RX2 56 "OhmBridge$Meter" "reading" "I"]
def wsL_law_r23 : List Cond := [Cond.fieldLink RX2 63 "OhmBridge$Meter" "diagnosed" "I", Cond.methodLink RX2 21 yX4_setting, Cond.instanceMethod yX4_setting, Cond.selects RX4 yX4_setting yX4_setting, Cond.code yX4_setting cX4_setting 2 (some .int), Cond.methodLink RX2 27 yX1_take, Cond.instanceMethod yX1_take, Cond.selects RX1 yX1_take yX1_take, Cond.code yX1_take cX1_take 10 none, Cond.fieldLink RX1 9 "OhmBridge$Measurement" "current" "J", Cond.fieldLink RX1 21 "OhmBridge$Measurement" "reference" "J", Cond.fieldLink RX1 24 "OhmBridge$Measurement" "unit" "J", Cond.fieldLink RX1 32 "OhmBridge$Measurement" "stray" "J", Cond.fieldLink RX1 35 "OhmBridge$Sensor" "table" "I", Cond.fieldLink RX1 47 "OhmBridge$Measurement" "heated" "J", Cond.fieldLink RX1 50 "OhmBridge$Sensor" "wires" "I", Cond.fieldLink RX1 60 "OhmBridge$Measurement" "oneWay" "J", Cond.fieldLink RX1 63 "OhmBridge$Measurement" "otherWay" "J", Cond.fieldLink RX1 66 "OhmBridge$Measurement" "secondOneWay" "J", Cond.fieldLink RX1 69 "OhmBridge$Measurement" "secondOtherWay" "J", Cond.constantLong RX1 72 (2), Cond.fieldLink RX1 77 "OhmBridge$Measurement" "loopOhms" "J", Cond.fieldLink RX1 80 "OhmBridge$Measurement" "compensated" "J", Cond.methodLink RX1 15 yX4_setting]
def wsL_law_r24 : List Cond := [Cond.methodLink RX1 27 yX3_strainOf, Cond.methodLink RX1 39 yX4_tableAt, Cond.methodLink RX1 43 yX1_heatedOhms, Cond.instanceMethod yX1_heatedOhms, Cond.selects RX1 yX1_heatedOhms yX1_heatedOhms, Cond.code yX1_heatedOhms cX1_heatedOhms 9 (some .long), Cond.fieldLink RX1 87 "OhmBridge$Sensor" "trueBase" "I", Cond.fieldLink RX1 90 "OhmBridge$Sensor" "temperature" "I", Cond.constantLong RX1 98 (1000000), Cond.fieldLink RX1 100 "OhmBridge$Table" "nodes" "I", Cond.methodLink RX1 106 Lib.MathLoose.min_long.x, Cond.static Lib.MathLoose.min_long.x, Cond.code Lib.MathLoose.min_long.x Lib.MathLoose.min_long.code 4 (some .long), Cond.methodLink RX1 93 yX5_ratioAt, Cond.methodLink RX1 103 yX5_temperatureOf, Cond.methodLink RX1 53 yX3_leadOf, Cond.methodLink RX1 56 yX1_countsOf, Cond.instanceMethod yX1_countsOf, Cond.selects RX1 yX1_countsOf yX1_countsOf, Cond.code yX1_countsOf cX1_countsOf 7 (some .long), Cond.methodLink RX1 118 Lib.MathLoose.max_long.x, Cond.static Lib.MathLoose.max_long.x, Cond.code Lib.MathLoose.max_long.x Lib.MathLoose.max_long.code 4 (some .long), Cond.methodLink RX1 114 yX1_greatest]
def wsL_law_r25 : List Cond := [Cond.instanceMethod yX1_greatest, Cond.selects RX1 yX1_greatest yX1_greatest, Cond.code yX1_greatest cX1_greatest 1 (some .long), Cond.constantLong RX1 112 (4), Cond.methodLink RX1 74 yX1_ohmsBy, Cond.instanceMethod yX1_ohmsBy, Cond.selects RX1 yX1_ohmsBy yX1_ohmsBy, Cond.code yX1_ohmsBy cX1_ohmsBy 3 (some .long), Cond.methodLink RX1 83 yX3_isCompensated, Cond.instanceMethod yX3_isCompensated, Cond.selects RX3 yX3_isCompensated yX3_isCompensated, Cond.code yX3_isCompensated cX3_isCompensated 1 (some .boolean), Cond.methodLink RX2 31 yX2_extrapolated, Cond.instanceMethod yX2_extrapolated, Cond.selects RX2 yX2_extrapolated yX2_extrapolated, Cond.code yX2_extrapolated cX2_extrapolated 13 (some .long), Cond.fieldLink RX2 66 "OhmBridge$Measurement" "compensated" "J", Cond.constantLong RX2 69 (-2000000000), Cond.constantLong RX2 71 (2000000000), Cond.methodLink RX2 73 Lib.MathLoose.min_long.x, Cond.methodLink RX2 78 Lib.MathLoose.max_long.x, Cond.methodLink RX2 45 yX4_tableAt, Cond.methodLink RX2 52 yX2_readingOf, Cond.instanceMethod yX2_readingOf]
def wsL_law_r26 : List Cond := [Cond.selects RX2 yX2_readingOf yX2_readingOf, Cond.code yX2_readingOf cX2_readingOf 4 (some .int), Cond.constant RX2 81 (-2000000004), Cond.constantLong RX2 82 (1000000), Cond.methodLink RX2 84 yX5_temperatureFor, Cond.methodLink RX2 59 yX2_diagnosisOf, Cond.instanceMethod yX2_diagnosisOf, Cond.selects RX2 yX2_diagnosisOf yX2_diagnosisOf, Cond.code yX2_diagnosisOf cX2_diagnosisOf 4 (some .int), Cond.fieldLink RX2 94 "OhmBridge$Sensor" "brokenWires" "I", Cond.methodLink RX2 103 Lib.Math.abs.name, Cond.static Lib.Math.abs.name, Cond.code Lib.Math.abs.name Lib.Math.abs.code 1 (some .int), Cond.methodLink RX2 90 yX3_isPlugged, Cond.methodLink RX2 97 yX1_isAtBound, Cond.instanceMethod yX1_isAtBound, Cond.selects RX1 yX1_isAtBound yX1_isAtBound, Cond.code yX1_isAtBound cX1_isAtBound 1 (some .boolean), Cond.methodLink RX2 100 yX3_leadOf, Cond.methodLink RX2 106 yX3_isCompensated, Cond.methodLink RX2 109 yX3_strainOf, Cond.methodLink RX7 225 yX4_baseFor, Cond.instanceMethod yX4_baseFor, Cond.selects RX4 yX4_baseFor yX4_baseFor]
def wsL_law_r27 : List Cond := [Cond.code yX4_baseFor cX4_baseFor 8 (some .long), Cond.constantLong RX4 85 (1000000), Cond.methodLink RX4 82 yX5_ratioAt, Cond.methodLink RL 76 yX8_calibrate, Cond.instanceMethod yX8_calibrate, Cond.selects RX8 yX8_calibrate yX8_calibrate, Cond.code yX8_calibrate cX8_calibrate 5 (some .int), Cond.methodLink RX8 128 yX8_diagnosed, Cond.instanceMethod yX8_diagnosed, Cond.selects RX8 yX8_diagnosed yX8_diagnosed, Cond.code yX8_diagnosed cX8_diagnosed 2 (some .int), Cond.methodLink RX8 131 yX8_without, Cond.instanceMethod yX8_without, Cond.selects RX8 yX8_without yX8_without, Cond.code yX8_without cX8_without 12 (some .long), Cond.constantLong RX8 172 (-2000000000), Cond.constantLong RX8 174 (2000000000), Cond.methodLink RX8 169 yX8_compensated, Cond.instanceMethod yX8_compensated, Cond.selects RX8 yX8_compensated yX8_compensated, Cond.code yX8_compensated cX8_compensated 5 (some .long), Cond.methodLink RX8 162 yX8_countsOf, Cond.instanceMethod yX8_countsOf, Cond.selects RX8 yX8_countsOf yX8_countsOf]
def wsL_law_r28 : List Cond := [Cond.code yX8_countsOf cX8_countsOf 5 (some .long), Cond.constantLong RX8 153 (2), Cond.methodLink RX8 149 yX8_countsOneWay, Cond.instanceMethod yX8_countsOneWay, Cond.selects RX8 yX8_countsOneWay yX8_countsOneWay, Cond.code yX8_countsOneWay cX8_countsOneWay 13 (some .long), Cond.constantLong RX8 158 (4), Cond.constantLong RX8 160 (-4), Cond.methodLink RX8 155 yX8_loop, Cond.instanceMethod yX8_loop, Cond.selects RX8 yX8_loop yX8_loop, Cond.code yX8_loop cX8_loop 3 (some .long), Cond.methodLink RX8 146 yX8_heated, Cond.instanceMethod yX8_heated, Cond.selects RX8 yX8_heated yX8_heated, Cond.code yX8_heated cX8_heated 8 (some .long), Cond.methodLink RX8 142 yX8_resistance, Cond.instanceMethod yX8_resistance, Cond.selects RX8 yX8_resistance yX8_resistance, Cond.code yX8_resistance cX8_resistance 3 (some .long), Cond.methodLink RX8 165 yX8_byCounts, Cond.instanceMethod yX8_byCounts, Cond.selects RX8 yX8_byCounts yX8_byCounts, Cond.code yX8_byCounts cX8_byCounts 3 (some .long)]
def wsL_law_r29 : List Cond := [Cond.methodLink RX8 176 yX8_isBound, Cond.instanceMethod yX8_isBound, Cond.selects RX8 yX8_isBound yX8_isBound, Cond.code yX8_isBound cX8_isBound 9 (some .boolean), Cond.methodLink RX8 179 yX8_size, Cond.static yX8_size, Cond.code yX8_size cX8_size 1 (some .int), Cond.methodLink RX8 182 yX8_degrees, Cond.instanceMethod yX8_degrees, Cond.selects RX8 yX8_degrees yX8_degrees, Cond.code yX8_degrees cX8_degrees 2 (some .int), Cond.methodLink RL 77 yX7_limits, Cond.instanceMethod yX7_limits, Cond.selects RX7 yX7_limits yX7_limits, Cond.code yX7_limits cX7_limits 7 (some .int), Cond.fieldLink RX7 234 "OhmBridge$Sensor" "alarm" "I", Cond.methodLink RX7 237 yX3_watch, Cond.methodLink RL 81 yX8_limits, Cond.instanceMethod yX8_limits, Cond.selects RX8 yX8_limits yX8_limits, Cond.code yX8_limits cX8_limits 6 (some .int), Cond.methodLink RL 82 yX7_sensorOf, Cond.instanceMethod yX7_sensorOf, Cond.selects RX7 yX7_sensorOf yX7_sensorOf]
def wsL_law_r30 : List Cond := [Cond.code yX7_sensorOf cX7_sensorOf 4 (some .int), Cond.constantLong RX7 241 (18), Cond.constantLong RX7 243 (5), Cond.constantLong RX7 245 (8), Cond.constantLong RX7 247 (9), Cond.constantLong RX7 249 (11), Cond.fieldLink RX7 251 "OhmBridge$Sensor" "table" "I", Cond.fieldLink RX7 254 "OhmBridge$Sensor" "wires" "I", Cond.fieldLink RX7 257 "OhmBridge$Sensor" "low" "I", Cond.fieldLink RX7 260 "OhmBridge$Sensor" "high" "I", Cond.fieldLink RX7 263 "OhmBridge$Sensor" "hysteresis" "I", Cond.fieldLink RX7 266 "OhmBridge$Sensor" "readings" "I", Cond.methodLink RL 85 yX8_sensorOf, Cond.instanceMethod yX8_sensorOf, Cond.selects RX8 yX8_sensorOf yX8_sensorOf, Cond.code yX8_sensorOf cX8_sensorOf 4 (some .int), Cond.methodLink RL 86 yX7_set, Cond.instanceMethod yX7_set, Cond.selects RX7 yX7_set yX7_set, Cond.code yX7_set cX7_set 4 (some .int), Cond.fieldLink RX7 269 "OhmBridge" "LEAST_SETTING" "[I", Cond.fieldLink RX7 272 "OhmBridge" "GREATEST_SETTING" "[I", Cond.methodLink RX7 275 yX4_setting, Cond.methodLink RX7 278 yX4_changeSetting]
def wsL_law_r31 : List Cond := [Cond.instanceMethod yX4_changeSetting, Cond.selects RX4 yX4_changeSetting yX4_changeSetting, Cond.code yX4_changeSetting cX4_changeSetting 3 none, Cond.methodLink RL 89 yX8_set, Cond.instanceMethod yX8_set, Cond.selects RX8 yX8_set yX8_set, Cond.code yX8_set cX8_set 4 (some .int), Cond.methodLink RX8 136 yX8_least, Cond.static yX8_least, Cond.code yX8_least cX8_least 1 (some .int), Cond.methodLink RX8 139 yX8_most, Cond.static yX8_most, Cond.code yX8_most cX8_most 1 (some .int), Cond.constant RX8 135 (1000000), Cond.methodLink RL 90 yX7_counts, Cond.instanceMethod yX7_counts, Cond.selects RX7 yX7_counts yX7_counts, Cond.code yX7_counts cX7_counts 10 (some .int), Cond.constantLong RX7 281 (100), Cond.constantLong RX7 283 (5000), Cond.fieldLink RX7 292 "OhmBridge$Measurement" "oneWay" "J", Cond.fieldLink RX7 295 "OhmBridge$Measurement" "secondOneWay" "J", Cond.fieldLink RX7 298 "OhmBridge$Measurement" "otherWay" "J", Cond.fieldLink RX7 301 "OhmBridge$Measurement" "secondOtherWay" "J"]
def wsL_law_r32 : List Cond := [Cond.methodLink RX7 285 yX3_isCompensated, Cond.methodLink RX7 288 yX1_take, Cond.methodLink RL 93 yX8_counts, Cond.instanceMethod yX8_counts, Cond.selects RX8 yX8_counts yX8_counts, Cond.code yX8_counts cX8_counts 5 (some .int), Cond.methodLink RL 94 yX7_ohms, Cond.instanceMethod yX7_ohms, Cond.selects RX7 yX7_ohms yX7_ohms, Cond.code yX7_ohms cX7_ohms 4 (some .int), Cond.fieldLink RX7 304 "OhmBridge$Meter" "first" "LOhmBridge$Measurement;", Cond.fieldLink RX7 307 "OhmBridge$Measurement" "heated" "J", Cond.fieldLink RX7 314 "OhmBridge$Measurement" "loopOhms" "J", Cond.fieldLink RX7 317 "OhmBridge$Measurement" "compensated" "J", Cond.fieldLink RX7 320 "OhmBridge$Meter" "second" "LOhmBridge$Measurement;", Cond.methodLink RX7 310 yX1_ohmsBy, Cond.methodLink RL 97 yX8_ohms, Cond.instanceMethod yX8_ohms, Cond.selects RX8 yX8_ohms yX8_ohms, Cond.code yX8_ohms cX8_ohms 3 (some .int), Cond.methodLink RL 98 yX7_diagnosis, Cond.instanceMethod yX7_diagnosis, Cond.selects RX7 yX7_diagnosis yX7_diagnosis, Cond.code yX7_diagnosis cX7_diagnosis 3 (some .int)]
def wsL_law_r33 : List Cond := [Cond.methodLink RL 101 yX8_diagnosis, Cond.instanceMethod yX8_diagnosis, Cond.selects RX8 yX8_diagnosis yX8_diagnosis, Cond.code yX8_diagnosis cX8_diagnosis 2 (some .int), Cond.methodLink RL 102 yX7_read, Cond.instanceMethod yX7_read, Cond.selects RX7 yX7_read yX7_read, Cond.code yX7_read cX7_read 3 (some .int), Cond.fieldLink RX7 323 "OhmBridge$Meter" "reading" "I", Cond.methodLink RX7 326 yX3_log, Cond.instanceMethod yX3_log, Cond.selects RX3 yX3_log yX3_log, Cond.code yX3_log cX3_log 3 none, Cond.methodLink RL 105 yX8_read, Cond.instanceMethod yX8_read, Cond.selects RX8 yX8_read yX8_read, Cond.code yX8_read cX8_read 2 (some .int), Cond.methodLink RX8 189 yX8_reads, Cond.instanceMethod yX8_reads, Cond.selects RX8 yX8_reads yX8_reads, Cond.code yX8_reads cX8_reads 4 (some .int), Cond.methodLink RX8 185 yX8_alarms, Cond.instanceMethod yX8_alarms, Cond.selects RX8 yX8_alarms yX8_alarms]
def wsL_law_r34 : List Cond := [Cond.code yX8_alarms cX8_alarms 6 none, Cond.methodLink RL 106 yX7_scan, Cond.instanceMethod yX7_scan, Cond.selects RX7 yX7_scan yX7_scan, Cond.code yX7_scan cX7_scan 3 (some .int), Cond.fieldLink RX7 333 "OhmBridge$State" "scanner" "I", Cond.methodLink RX7 329 yX4_nextPlugged, Cond.instanceMethod yX4_nextPlugged, Cond.selects RX4 yX4_nextPlugged yX4_nextPlugged, Cond.code yX4_nextPlugged cX4_nextPlugged 3 (some .int), Cond.methodLink RL 109 yX8_scan, Cond.instanceMethod yX8_scan, Cond.selects RX8 yX8_scan yX8_scan, Cond.code yX8_scan cX8_scan 1 (some .int), Cond.methodLink RX8 192 yX8_scans, Cond.instanceMethod yX8_scans, Cond.selects RX8 yX8_scans yX8_scans, Cond.code yX8_scans cX8_scans 5 (some .int), Cond.methodLink RL 110 yX7_readingAt, Cond.instanceMethod yX7_readingAt, Cond.selects RX7 yX7_readingAt yX7_readingAt, Cond.code yX7_readingAt cX7_readingAt 4 (some .int), Cond.methodLink RX7 336 yX3_keptReadings, Cond.instanceMethod yX3_keptReadings]
def wsL_law_r35 : List Cond := [Cond.selects RX3 yX3_keptReadings yX3_keptReadings, Cond.code yX3_keptReadings cX3_keptReadings 1 (some .int), Cond.methodLink RX3 70 Lib.Math.min.name, Cond.methodLink RX7 339 yX3_reading, Cond.instanceMethod yX3_reading, Cond.selects RX3 yX3_reading yX3_reading, Cond.code yX3_reading cX3_reading 2 (some .int), Cond.methodLink RL 113 yX8_readingAt, Cond.instanceMethod yX8_readingAt, Cond.selects RX8 yX8_readingAt yX8_readingAt, Cond.code yX8_readingAt cX8_readingAt 4 (some .int), Cond.methodLink RL 114 yX7_median, Cond.instanceMethod yX7_median, Cond.selects RX7 yX7_median yX7_median, Cond.code yX7_median cX7_median 5 (some .int), Cond.methodLink RX7 341 Lib.Math.min.name, Cond.methodLink RX7 347 yX7_insertSorted, Cond.instanceMethod yX7_insertSorted, Cond.selects RX7 yX7_insertSorted yX7_insertSorted, Cond.code yX7_insertSorted cX7_insertSorted 4 none, Cond.methodLink RL 117 yX8_median, Cond.instanceMethod yX8_median, Cond.selects RX8 yX8_median yX8_median, Cond.code yX8_median cX8_median 7 (some .int)]
def wsL_law_r36 : List Cond := [Cond.methodLink RL 118 yX7_meanBits, Cond.instanceMethod yX7_meanBits, Cond.selects RX7 yX7_meanBits yX7_meanBits, Cond.code yX7_meanBits cX7_meanBits 7 (some .int), Cond.constantDouble RX7 350 (4652007308841189376), Cond.methodLink RX7 352 yX7_bitsOf, Cond.static yX7_bitsOf, Cond.code yX7_bitsOf cX7_bitsOf 5 (some .int), Cond.constantFloat RX7 430 (1258291200), Cond.constant RX7 431 (-2147483648), Cond.methodLink RL 121 yX8_meanBits, Cond.instanceMethod yX8_meanBits, Cond.selects RX8 yX8_meanBits yX8_meanBits, Cond.code yX8_meanBits cX8_meanBits 7 (some .int), Cond.constantDouble RX8 196 (4652007308841189376), Cond.methodLink RX8 198 yJxf58ca_floatToIntBits_5c35a, Cond.static yJxf58ca_floatToIntBits_5c35a, Cond.initialized RJxf58ca, Cond.code yJxf58ca_floatToIntBits_5c35a cJxf58ca_floatToIntBits_5c35a 1 (some .int), Cond.methodLink RJxf58ca 74 ⟨"java/lang/Float", "floatToRawIntBits", "(F)I"⟩, Cond.native ⟨"java/lang/Float", "floatToRawIntBits", "(F)I"⟩, Cond.static ⟨"java/lang/Float", "floatToRawIntBits", "(F)I"⟩, Cond.initialized "java/lang/Float", Cond.constant RJxf58ca 77 (2143289344)]
def wsL_law_r37 : List Cond := [Cond.methodLink RJxf58ca 59 yJxf58ca_isNaN_12338, Cond.static yJxf58ca_isNaN_12338, Cond.code yJxf58ca_isNaN_12338 cJxf58ca_isNaN_12338 1 (some .boolean), Cond.methodLink RL 122 yX7_count, Cond.instanceMethod yX7_count, Cond.selects RX7 yX7_count yX7_count, Cond.code yX7_count cX7_count 3 (some .int), Cond.constantLong RX7 356 (20), Cond.constantLong RX7 358 (26), Cond.constantLong RX7 360 (10), Cond.constantLong RX7 362 (12), Cond.fieldLink RX7 373 "OhmBridge$History" "size" "I", Cond.fieldLink RX7 376 "OhmBridge$Text" "length" "I", Cond.methodLink RX7 364 yX4_pluggedSensors, Cond.instanceMethod yX4_pluggedSensors, Cond.selects RX4 yX4_pluggedSensors yX4_pluggedSensors, Cond.code yX4_pluggedSensors cX4_pluggedSensors 3 (some .int), Cond.methodLink RX4 65 yX4_takenSlots, Cond.methodLink RX7 367 yX4_alarmsOn, Cond.instanceMethod yX4_alarmsOn, Cond.selects RX4 yX4_alarmsOn yX4_alarmsOn, Cond.code yX4_alarmsOn cX4_alarmsOn 3 (some .int), Cond.fieldLink RX4 68 "OhmBridge$Sensor" "alarm" "I", Cond.methodLink RX7 370 yX4_allReadings]
def wsL_law_r38 : List Cond := [Cond.instanceMethod yX4_allReadings, Cond.selects RX4 yX4_allReadings yX4_allReadings, Cond.code yX4_allReadings cX4_allReadings 3 (some .int), Cond.fieldLink RX4 71 "OhmBridge$Sensor" "readings" "I", Cond.methodLink RL 125 yX8_count, Cond.instanceMethod yX8_count, Cond.selects RX8 yX8_count yX8_count, Cond.code yX8_count cX8_count 6 (some .int), Cond.fieldLink RX8 204 "OhmBridgeModel" "typed" "I", Cond.methodLink RL 126 yX7_undo, Cond.instanceMethod yX7_undo, Cond.selects RX7 yX7_undo yX7_undo, Cond.code yX7_undo cX7_undo 1 (some .int), Cond.methodLink RX7 379 yX0_restore, Cond.instanceMethod yX0_restore, Cond.selects RX0 yX0_restore yX0_restore, Cond.code yX0_restore cX0_restore 2 none, Cond.methodLink RL 129 yX8_undo, Cond.instanceMethod yX8_undo, Cond.selects RX8 yX8_undo yX8_undo, Cond.code yX8_undo cX8_undo 2 (some .int), Cond.methodLink RL 130 yX7_type, Cond.instanceMethod yX7_type, Cond.selects RX7 yX7_type yX7_type]
def wsL_law_r39 : List Cond := [Cond.code yX7_type cX7_type 2 (some .int), Cond.constantLong RX7 382 (32), Cond.constantLong RX7 384 (126), Cond.methodLink RX7 386 yX6_append, Cond.instanceMethod yX6_append, Cond.selects RX6 yX6_append yX6_append, Cond.code yX6_append cX6_append 2 none, Cond.fieldLink RX6 15 "OhmBridge$Text" "length" "I", Cond.methodLink RL 133 yX8_type, Cond.instanceMethod yX8_type, Cond.selects RX8 yX8_type yX8_type, Cond.code yX8_type cX8_type 2 (some .int), Cond.methodLink RL 134 yX7_clearText, Cond.instanceMethod yX7_clearText, Cond.selects RX7 yX7_clearText yX7_clearText, Cond.code yX7_clearText cX7_clearText 2 (some .int), Cond.methodLink RL 137 yX8_clearText, Cond.instanceMethod yX8_clearText, Cond.selects RX8 yX8_clearText yX8_clearText, Cond.code yX8_clearText cX8_clearText 2 (some .int), Cond.methodLink RL 138 yX7_fault, Cond.instanceMethod yX7_fault, Cond.selects RX7 yX7_fault yX7_fault, Cond.code yX7_fault cX7_fault 2 (some .int)]
def wsL_law_r40 : List Cond := [Cond.fieldLink RX7 392 "OhmBridge" "faultReason" "I", Cond.fieldLink RX7 395 "OhmBridge" "faultPlace" "I", Cond.methodLink RX7 389 yX7_tryOrders, Cond.instanceMethod yX7_tryOrders, Cond.selects RX7 yX7_tryOrders yX7_tryOrders, Cond.code yX7_tryOrders cX7_tryOrders 2 none, Cond.fieldLink RX7 401 "OhmBridge" "ordersDone" "I", Cond.fieldLink RX7 410 "OhmBridge$Text" "next" "I", Cond.methodLink RX7 398 yX4_copy, Cond.methodLink RX7 404 yX6_parse, Cond.instanceMethod yX6_parse, Cond.selects RX6 yX6_parse yX6_parse, Cond.code yX6_parse cX6_parse 2 (some .boolean), Cond.fieldLink RX6 23 "OhmBridge$Text" "order" "C", Cond.fieldLink RX6 27 "OhmBridge$Text" "next" "I", Cond.fieldLink RX6 38 "OhmBridge$Text" "sensor" "I", Cond.methodLink RX6 19 yX6_characterAt, Cond.instanceMethod yX6_characterAt, Cond.selects RX6 yX6_characterAt yX6_characterAt, Cond.code yX6_characterAt cX6_characterAt 3 (some .char), Cond.methodLink RX6 30 yX6_takes, Cond.instanceMethod yX6_takes, Cond.selects RX6 yX6_takes yX6_takes, Cond.code yX6_takes cX6_takes 2 (some .boolean)]
def wsL_law_r41 : List Cond := [Cond.methodLink RX6 34 yX6_parsedDigits, Cond.instanceMethod yX6_parsedDigits, Cond.selects RX6 yX6_parsedDigits yX6_parsedDigits, Cond.code yX6_parsedDigits cX6_parsedDigits 3 (some .int), Cond.methodLink RX6 41 yX6_parsesNumber, Cond.instanceMethod yX6_parsesNumber, Cond.selects RX6 yX6_parsesNumber yX6_parsesNumber, Cond.code yX6_parsesNumber cX6_parsesNumber 3 (some .boolean), Cond.fieldLink RX6 45 "OhmBridge$Text" "number" "I", Cond.methodLink RX7 407 yX7_obey, Cond.instanceMethod yX7_obey, Cond.selects RX7 yX7_obey yX7_obey, Cond.code yX7_obey cX7_obey 3 (some .int), Cond.fieldLink RX7 413 "OhmBridge$Text" "order" "C", Cond.fieldLink RX7 417 "OhmBridge$Text" "sensor" "I", Cond.methodLink RX7 420 yX7_obeyBath, Cond.instanceMethod yX7_obeyBath, Cond.selects RX7 yX7_obeyBath yX7_obeyBath, Cond.code yX7_obeyBath cX7_obeyBath 2 (some .int), Cond.fieldLink RX7 427 "OhmBridge$Text" "number" "I", Cond.methodLink RX7 424 yX7_obeyCut, Cond.instanceMethod yX7_obeyCut, Cond.selects RX7 yX7_obeyCut yX7_obeyCut, Cond.code yX7_obeyCut cX7_obeyCut 2 (some .int)]
def wsL_law_r42 : List Cond := [Cond.methodLink RL 141 yX8_fault, Cond.instanceMethod yX8_fault, Cond.selects RX8 yX8_fault yX8_fault, Cond.code yX8_fault cX8_fault 3 (some .int), Cond.fieldLink RX8 227 "OhmBridgeModel" "reason" "I", Cond.methodLink RX8 230 yX8_faulty, Cond.instanceMethod yX8_faulty, Cond.selects RX8 yX8_faulty yX8_faulty, Cond.code yX8_faulty cX8_faulty 3 (some .int), Cond.fieldLink RX8 207 "OhmBridgeModel" "at" "I", Cond.methodLink RX8 224 yX8_doesNext, Cond.instanceMethod yX8_doesNext, Cond.selects RX8 yX8_doesNext yX8_doesNext, Cond.code yX8_doesNext cX8_doesNext 3 (some .int), Cond.methodLink RX8 217 yX8_readsForm, Cond.instanceMethod yX8_readsForm, Cond.selects RX8 yX8_readsForm yX8_readsForm, Cond.code yX8_readsForm cX8_readsForm 4 (some .boolean), Cond.methodLink RX8 210 yX8_takes, Cond.instanceMethod yX8_takes, Cond.selects RX8 yX8_takes yX8_takes, Cond.code yX8_takes cX8_takes 3 (some .boolean), Cond.methodLink RX8 213 yX8_passes, Cond.instanceMethod yX8_passes]
def wsL_law_r43 : List Cond := [Cond.selects RX8 yX8_passes yX8_passes, Cond.code yX8_passes cX8_passes 3 (some .boolean), Cond.methodLink RX8 220 yX8_does, Cond.instanceMethod yX8_does, Cond.selects RX8 yX8_does yX8_does, Cond.code yX8_does cX8_does 2 (some .int), Cond.methodLink RL 142 yX7_play, Cond.instanceMethod yX7_play, Cond.selects RX7 yX7_play yX7_play, Cond.code yX7_play cX7_play 1 (some .int), Cond.methodLink RL 145 yX8_play, Cond.instanceMethod yX8_play, Cond.selects RX8 yX8_play yX8_play, Cond.code yX8_play cX8_play 2 (some .int)]
def wsL_law : List Cond := (wsL_law_r1 ++ (wsL_law_r2 ++ (wsL_law_r3 ++ (wsL_law_r4 ++ (wsL_law_r5 ++ (wsL_law_r6 ++ (wsL_law_r7 ++ (wsL_law_r8 ++ (wsL_law_r9 ++ (wsL_law_r10 ++ (wsL_law_r11 ++ (wsL_law_r12 ++ (wsL_law_r13 ++ (wsL_law_r14 ++ (wsL_law_r15 ++ (wsL_law_r16 ++ (wsL_law_r17 ++ (wsL_law_r18 ++ (wsL_law_r19 ++ (wsL_law_r20 ++ (wsL_law_r21 ++ (wsL_law_r22 ++ (wsL_law_r23 ++ (wsL_law_r24 ++ (wsL_law_r25 ++ (wsL_law_r26 ++ (wsL_law_r27 ++ (wsL_law_r28 ++ (wsL_law_r29 ++ (wsL_law_r30 ++ (wsL_law_r31 ++ (wsL_law_r32 ++ (wsL_law_r33 ++ (wsL_law_r34 ++ (wsL_law_r35 ++ (wsL_law_r36 ++ (wsL_law_r37 ++ (wsL_law_r38 ++ (wsL_law_r39 ++ (wsL_law_r40 ++ (wsL_law_r41 ++ (wsL_law_r42 ++ wsL_law_r43)))))))))))))))))))))))))))))))))))))))))) ++ wsX70 ++ wsX80 ++ wsX40 ++ wsX00 ++ wsX20 ++ wsX10 ++ wsX60 ++ wsX50 ++ wsX30 ++ ([] : List Cond)
theorem inlX0 : ∀ w ∈ wsX00, w ∈ wsL_law := fun _ h => List.mem_append_left _ (List.mem_append_left _ (List.mem_append_left _ (List.mem_append_left _ (List.mem_append_left _ (List.mem_append_left _ (List.mem_append_right _ h))))))
theorem inlX1 : ∀ w ∈ wsX10, w ∈ wsL_law := fun _ h => List.mem_append_left _ (List.mem_append_left _ (List.mem_append_left _ (List.mem_append_left _ (List.mem_append_right _ h))))
theorem inlX2 : ∀ w ∈ wsX20, w ∈ wsL_law := fun _ h => List.mem_append_left _ (List.mem_append_left _ (List.mem_append_left _ (List.mem_append_left _ (List.mem_append_left _ (List.mem_append_right _ h)))))
theorem inlX3 : ∀ w ∈ wsX30, w ∈ wsL_law := fun _ h => List.mem_append_left _ (List.mem_append_right _ h)
theorem inlX4 : ∀ w ∈ wsX40, w ∈ wsL_law := fun _ h => List.mem_append_left _ (List.mem_append_left _ (List.mem_append_left _ (List.mem_append_left _ (List.mem_append_left _ (List.mem_append_left _ (List.mem_append_left _ (List.mem_append_right _ h)))))))
theorem inlX5 : ∀ w ∈ wsX50, w ∈ wsL_law := fun _ h => List.mem_append_left _ (List.mem_append_left _ (List.mem_append_right _ h))
theorem inlX6 : ∀ w ∈ wsX60, w ∈ wsL_law := fun _ h => List.mem_append_left _ (List.mem_append_left _ (List.mem_append_left _ (List.mem_append_right _ h)))
theorem inlX7 : ∀ w ∈ wsX70, w ∈ wsL_law := fun _ h => List.mem_append_left _ (List.mem_append_left _ (List.mem_append_left _ (List.mem_append_left _ (List.mem_append_left _ (List.mem_append_left _ (List.mem_append_left _ (List.mem_append_left _ (List.mem_append_left _ (List.mem_append_right _ h)))))))))
theorem inlX8 : ∀ w ∈ wsX80, w ∈ wsL_law := fun _ h => List.mem_append_left _ (List.mem_append_left _ (List.mem_append_left _ (List.mem_append_left _ (List.mem_append_left _ (List.mem_append_left _ (List.mem_append_left _ (List.mem_append_left _ (List.mem_append_right _ h))))))))
abbrev vwCl : List vw_C := [(RX0, TX0, 2), (RX1, TX1, 11), (RX2, TX2, 5), (RX3, TX3, 15), (RX4, TX4, 6), (RX5, TX5, 3), (RX6, TX6, 6), (RX7, TX7, 10), (RX8, TX8, 11)]
/-! ===== the words of wsL_law, one name each ===== -/
theorem lwc_1 : ∀ w ∈ wsL_law_r1, w ∈ wsL_law := fun _ h => List.mem_append_left _ (List.mem_append_left _ (List.mem_append_left _ (List.mem_append_left _ (List.mem_append_left _ (List.mem_append_left _ (List.mem_append_left _ (List.mem_append_left _ (List.mem_append_left _ (List.mem_append_left _ (List.mem_append_left _ h))))))))))
theorem q0 : Cond.classLink RL 7 RX7 ∈ wsL_law := lwc_1 _ (List.mem_of_getElem? (i := 0) rfl)
theorem q1 : Cond.instantiable RX7 10 ∈ wsL_law := lwc_1 _ (List.mem_of_getElem? (i := 1) rfl)
theorem q2 : Cond.initialized RX7 ∈ wsL_law := lwc_1 _ (List.mem_of_getElem? (i := 2) rfl)
theorem q3 : Cond.classLink RL 10 RX8 ∈ wsL_law := lwc_1 _ (List.mem_of_getElem? (i := 3) rfl)
theorem q4 : Cond.instantiable RX8 11 ∈ wsL_law := lwc_1 _ (List.mem_of_getElem? (i := 4) rfl)
theorem q5 : Cond.initialized RX8 ∈ wsL_law := lwc_1 _ (List.mem_of_getElem? (i := 5) rfl)
theorem q6 : Cond.methodLink RL 9 yX7_init ∈ wsL_law := lwc_1 _ (List.mem_of_getElem? (i := 6) rfl)
theorem q7 : Cond.instanceMethod yX7_init ∈ wsL_law := lwc_1 _ (List.mem_of_getElem? (i := 7) rfl)
theorem q8 : Cond.code yX7_init cX7_init 1 none ∈ wsL_law := lwc_1 _ (List.mem_of_getElem? (i := 8) rfl)
theorem q9 : Cond.methodLink RX7 1 objectInit ∈ wsL_law := lwc_1 _ (List.mem_of_getElem? (i := 9) rfl)
theorem q10 : Cond.instanceMethod objectInit ∈ wsL_law := lwc_1 _ (List.mem_of_getElem? (i := 10) rfl)
theorem q11 : Cond.code objectInit ⟨#[0xb1]⟩ 1 none ∈ wsL_law := lwc_1 _ (List.mem_of_getElem? (i := 11) rfl)
theorem q12 : Cond.classLink RX7 7 RX4 ∈ wsL_law := lwc_1 _ (List.mem_of_getElem? (i := 12) rfl)
theorem q13 : Cond.instantiable RX4 6 ∈ wsL_law := lwc_1 _ (List.mem_of_getElem? (i := 13) rfl)
theorem q14 : Cond.initialized RX4 ∈ wsL_law := lwc_1 _ (List.mem_of_getElem? (i := 14) rfl)
theorem q15 : Cond.fieldLink RX7 10 "OhmBridge" "now" "LOhmBridge$State;" ∈ wsL_law := lwc_1 _ (List.mem_of_getElem? (i := 15) rfl)
theorem q16 : Cond.fieldLink RX7 16 "OhmBridge" "trial" "LOhmBridge$State;" ∈ wsL_law := lwc_1 _ (List.mem_of_getElem? (i := 16) rfl)
theorem q17 : Cond.classLink RX7 19 RX0 ∈ wsL_law := lwc_1 _ (List.mem_of_getElem? (i := 17) rfl)
theorem q18 : Cond.instantiable RX0 2 ∈ wsL_law := lwc_1 _ (List.mem_of_getElem? (i := 18) rfl)
theorem q19 : Cond.initialized RX0 ∈ wsL_law := lwc_1 _ (List.mem_of_getElem? (i := 19) rfl)
theorem q20 : Cond.fieldLink RX7 22 "OhmBridge" "history" "LOhmBridge$History;" ∈ wsL_law := lwc_1 _ (List.mem_of_getElem? (i := 20) rfl)
theorem q21 : Cond.classLink RX7 26 RX2 ∈ wsL_law := lwc_1 _ (List.mem_of_getElem? (i := 21) rfl)
theorem q22 : Cond.instantiable RX2 5 ∈ wsL_law := lwc_1 _ (List.mem_of_getElem? (i := 22) rfl)
theorem q23 : Cond.initialized RX2 ∈ wsL_law := lwc_1 _ (List.mem_of_getElem? (i := 23) rfl)
theorem lwc_2 : ∀ w ∈ wsL_law_r2, w ∈ wsL_law := fun _ h => List.mem_append_left _ (List.mem_append_left _ (List.mem_append_left _ (List.mem_append_left _ (List.mem_append_left _ (List.mem_append_left _ (List.mem_append_left _ (List.mem_append_left _ (List.mem_append_left _ (List.mem_append_left _ (List.mem_append_right _ (List.mem_append_left _ h)))))))))))
theorem q24 : Cond.fieldLink RX7 29 "OhmBridge" "meter" "LOhmBridge$Meter;" ∈ wsL_law := lwc_2 _ (List.mem_of_getElem? (i := 0) rfl)
theorem q25 : Cond.classLink RX7 33 RX1 ∈ wsL_law := lwc_2 _ (List.mem_of_getElem? (i := 1) rfl)
theorem q26 : Cond.instantiable RX1 11 ∈ wsL_law := lwc_2 _ (List.mem_of_getElem? (i := 2) rfl)
theorem q27 : Cond.initialized RX1 ∈ wsL_law := lwc_2 _ (List.mem_of_getElem? (i := 3) rfl)
theorem q28 : Cond.fieldLink RX7 36 "OhmBridge" "probe" "LOhmBridge$Measurement;" ∈ wsL_law := lwc_2 _ (List.mem_of_getElem? (i := 4) rfl)
theorem q29 : Cond.classLink RX7 40 RX6 ∈ wsL_law := lwc_2 _ (List.mem_of_getElem? (i := 5) rfl)
theorem q30 : Cond.instantiable RX6 6 ∈ wsL_law := lwc_2 _ (List.mem_of_getElem? (i := 6) rfl)
theorem q31 : Cond.initialized RX6 ∈ wsL_law := lwc_2 _ (List.mem_of_getElem? (i := 7) rfl)
theorem q32 : Cond.fieldLink RX7 43 "OhmBridge" "text" "LOhmBridge$Text;" ∈ wsL_law := lwc_2 _ (List.mem_of_getElem? (i := 8) rfl)
theorem q33 : Cond.arrayClass .int ∈ wsL_law := lwc_2 _ (List.mem_of_getElem? (i := 9) rfl)
theorem q34 : Cond.fieldLink RX7 47 "OhmBridge" "sorted" "[I" ∈ wsL_law := lwc_2 _ (List.mem_of_getElem? (i := 10) rfl)
theorem q35 : Cond.methodLink RX7 9 yX4_init ∈ wsL_law := lwc_2 _ (List.mem_of_getElem? (i := 11) rfl)
theorem q36 : Cond.instanceMethod yX4_init ∈ wsL_law := lwc_2 _ (List.mem_of_getElem? (i := 12) rfl)
theorem q37 : Cond.code yX4_init cX4_init 2 none ∈ wsL_law := lwc_2 _ (List.mem_of_getElem? (i := 13) rfl)
theorem q38 : Cond.methodLink RX4 3 objectInit ∈ wsL_law := lwc_2 _ (List.mem_of_getElem? (i := 14) rfl)
theorem q39 : Cond.fieldLink RX4 9 "OhmBridge$State" "scanner" "I" ∈ wsL_law := lwc_2 _ (List.mem_of_getElem? (i := 15) rfl)
theorem q40 : Cond.classLink RX4 15 RX5 ∈ wsL_law := lwc_2 _ (List.mem_of_getElem? (i := 16) rfl)
theorem q41 : Cond.fieldLink RX4 17 "OhmBridge$State" "tables" "[LOhmBridge$Table;" ∈ wsL_law := lwc_2 _ (List.mem_of_getElem? (i := 17) rfl)
theorem q42 : Cond.classLink RX4 21 RX3 ∈ wsL_law := lwc_2 _ (List.mem_of_getElem? (i := 18) rfl)
theorem q43 : Cond.fieldLink RX4 23 "OhmBridge$State" "sensors" "[LOhmBridge$Sensor;" ∈ wsL_law := lwc_2 _ (List.mem_of_getElem? (i := 19) rfl)
theorem q44 : Cond.fieldLink RX4 27 "OhmBridge$State" "settings" "[I" ∈ wsL_law := lwc_2 _ (List.mem_of_getElem? (i := 20) rfl)
theorem q45 : Cond.instantiable RX5 3 ∈ wsL_law := lwc_2 _ (List.mem_of_getElem? (i := 21) rfl)
theorem q46 : Cond.initialized RX5 ∈ wsL_law := lwc_2 _ (List.mem_of_getElem? (i := 22) rfl)
theorem q47 : Cond.instantiable RX3 15 ∈ wsL_law := lwc_2 _ (List.mem_of_getElem? (i := 23) rfl)
theorem lwc_3 : ∀ w ∈ wsL_law_r3, w ∈ wsL_law := fun _ h => List.mem_append_left _ (List.mem_append_left _ (List.mem_append_left _ (List.mem_append_left _ (List.mem_append_left _ (List.mem_append_left _ (List.mem_append_left _ (List.mem_append_left _ (List.mem_append_left _ (List.mem_append_left _ (List.mem_append_right _ (List.mem_append_right _ (List.mem_append_left _ h))))))))))))
theorem q48 : Cond.initialized RX3 ∈ wsL_law := lwc_3 _ (List.mem_of_getElem? (i := 0) rfl)
theorem q49 : Cond.methodLink RX4 36 arraycopyName ∈ wsL_law := lwc_3 _ (List.mem_of_getElem? (i := 1) rfl)
theorem q50 : Cond.native arraycopyName ∈ wsL_law := lwc_3 _ (List.mem_of_getElem? (i := 2) rfl)
theorem q51 : Cond.static arraycopyName ∈ wsL_law := lwc_3 _ (List.mem_of_getElem? (i := 3) rfl)
theorem q52 : Cond.initialized "java/lang/System" ∈ wsL_law := lwc_3 _ (List.mem_of_getElem? (i := 4) rfl)
theorem q53 : Cond.instanceMethod yX5_init ∈ wsL_law := lwc_3 _ (List.mem_of_getElem? (i := 5) rfl)
theorem q54 : Cond.code yX5_init cX5_init 1 none ∈ wsL_law := lwc_3 _ (List.mem_of_getElem? (i := 6) rfl)
theorem q55 : Cond.methodLink RX5 3 objectInit ∈ wsL_law := lwc_3 _ (List.mem_of_getElem? (i := 7) rfl)
theorem q56 : Cond.fieldLink RX5 9 "OhmBridge$Table" "temperatures" "[I" ∈ wsL_law := lwc_3 _ (List.mem_of_getElem? (i := 8) rfl)
theorem q57 : Cond.fieldLink RX5 15 "OhmBridge$Table" "ratios" "[I" ∈ wsL_law := lwc_3 _ (List.mem_of_getElem? (i := 9) rfl)
theorem q58 : Cond.instanceMethod yX3_init ∈ wsL_law := lwc_3 _ (List.mem_of_getElem? (i := 10) rfl)
theorem q59 : Cond.code yX3_init cX3_init 1 none ∈ wsL_law := lwc_3 _ (List.mem_of_getElem? (i := 11) rfl)
theorem q60 : Cond.methodLink RX3 3 objectInit ∈ wsL_law := lwc_3 _ (List.mem_of_getElem? (i := 12) rfl)
theorem q61 : Cond.fieldLink RX3 9 "OhmBridge$Sensor" "place" "I" ∈ wsL_law := lwc_3 _ (List.mem_of_getElem? (i := 13) rfl)
theorem q62 : Cond.fieldLink RX3 15 "OhmBridge$Sensor" "leads" "[I" ∈ wsL_law := lwc_3 _ (List.mem_of_getElem? (i := 14) rfl)
theorem q63 : Cond.fieldLink RX3 19 "OhmBridge$Sensor" "strains" "[I" ∈ wsL_law := lwc_3 _ (List.mem_of_getElem? (i := 15) rfl)
theorem q64 : Cond.fieldLink RX3 22 "OhmBridge$Sensor" "latest" "[I" ∈ wsL_law := lwc_3 _ (List.mem_of_getElem? (i := 16) rfl)
theorem q65 : Cond.methodLink RX7 21 yX0_init ∈ wsL_law := lwc_3 _ (List.mem_of_getElem? (i := 17) rfl)
theorem q66 : Cond.instanceMethod yX0_init ∈ wsL_law := lwc_3 _ (List.mem_of_getElem? (i := 18) rfl)
theorem q67 : Cond.code yX0_init cX0_init 2 none ∈ wsL_law := lwc_3 _ (List.mem_of_getElem? (i := 19) rfl)
theorem q68 : Cond.methodLink RX0 3 objectInit ∈ wsL_law := lwc_3 _ (List.mem_of_getElem? (i := 20) rfl)
theorem q69 : Cond.classLink RX0 9 RX4 ∈ wsL_law := lwc_3 _ (List.mem_of_getElem? (i := 21) rfl)
theorem q70 : Cond.fieldLink RX0 11 "OhmBridge$History" "kept" "[LOhmBridge$State;" ∈ wsL_law := lwc_3 _ (List.mem_of_getElem? (i := 22) rfl)
theorem q71 : Cond.methodLink RX0 17 yX4_init ∈ wsL_law := lwc_3 _ (List.mem_of_getElem? (i := 23) rfl)
theorem lwc_4 : ∀ w ∈ wsL_law_r4, w ∈ wsL_law := fun _ h => List.mem_append_left _ (List.mem_append_left _ (List.mem_append_left _ (List.mem_append_left _ (List.mem_append_left _ (List.mem_append_left _ (List.mem_append_left _ (List.mem_append_left _ (List.mem_append_left _ (List.mem_append_left _ (List.mem_append_right _ (List.mem_append_right _ (List.mem_append_right _ (List.mem_append_left _ h)))))))))))))
theorem q72 : Cond.instanceMethod yX2_init ∈ wsL_law := lwc_4 _ (List.mem_of_getElem? (i := 0) rfl)
theorem q73 : Cond.code yX2_init cX2_init 1 none ∈ wsL_law := lwc_4 _ (List.mem_of_getElem? (i := 1) rfl)
theorem q74 : Cond.methodLink RX2 3 objectInit ∈ wsL_law := lwc_4 _ (List.mem_of_getElem? (i := 2) rfl)
theorem q75 : Cond.classLink RX2 9 RX1 ∈ wsL_law := lwc_4 _ (List.mem_of_getElem? (i := 3) rfl)
theorem q76 : Cond.fieldLink RX2 12 "OhmBridge$Meter" "first" "LOhmBridge$Measurement;" ∈ wsL_law := lwc_4 _ (List.mem_of_getElem? (i := 4) rfl)
theorem q77 : Cond.fieldLink RX2 18 "OhmBridge$Meter" "second" "LOhmBridge$Measurement;" ∈ wsL_law := lwc_4 _ (List.mem_of_getElem? (i := 5) rfl)
theorem q78 : Cond.instanceMethod yX1_init ∈ wsL_law := lwc_4 _ (List.mem_of_getElem? (i := 6) rfl)
theorem q79 : Cond.code yX1_init cX1_init 1 none ∈ wsL_law := lwc_4 _ (List.mem_of_getElem? (i := 7) rfl)
theorem q80 : Cond.methodLink RX1 3 objectInit ∈ wsL_law := lwc_4 _ (List.mem_of_getElem? (i := 8) rfl)
theorem q81 : Cond.instanceMethod yX6_init ∈ wsL_law := lwc_4 _ (List.mem_of_getElem? (i := 9) rfl)
theorem q82 : Cond.code yX6_init cX6_init 1 none ∈ wsL_law := lwc_4 _ (List.mem_of_getElem? (i := 10) rfl)
theorem q83 : Cond.methodLink RX6 3 objectInit ∈ wsL_law := lwc_4 _ (List.mem_of_getElem? (i := 11) rfl)
theorem q84 : Cond.arrayClass .char ∈ wsL_law := lwc_4 _ (List.mem_of_getElem? (i := 12) rfl)
theorem q85 : Cond.fieldLink RX6 9 "OhmBridge$Text" "characters" "[C" ∈ wsL_law := lwc_4 _ (List.mem_of_getElem? (i := 13) rfl)
theorem q86 : Cond.methodLink RL 12 yX8_init ∈ wsL_law := lwc_4 _ (List.mem_of_getElem? (i := 14) rfl)
theorem q87 : Cond.instanceMethod yX8_init ∈ wsL_law := lwc_4 _ (List.mem_of_getElem? (i := 15) rfl)
theorem q88 : Cond.code yX8_init cX8_init 1 none ∈ wsL_law := lwc_4 _ (List.mem_of_getElem? (i := 16) rfl)
theorem q89 : Cond.methodLink RX8 1 objectInit ∈ wsL_law := lwc_4 _ (List.mem_of_getElem? (i := 17) rfl)
theorem q90 : Cond.fieldLink RX8 7 "OhmBridgeModel" "s" "[I" ∈ wsL_law := lwc_4 _ (List.mem_of_getElem? (i := 18) rfl)
theorem q91 : Cond.fieldLink RX8 13 "OhmBridgeModel" "was" "[I" ∈ wsL_law := lwc_4 _ (List.mem_of_getElem? (i := 19) rfl)
theorem q92 : Cond.fieldLink RX8 16 "OhmBridgeModel" "aside" "[I" ∈ wsL_law := lwc_4 _ (List.mem_of_getElem? (i := 20) rfl)
theorem q93 : Cond.fieldLink RX8 19 "OhmBridgeModel" "begun" "[I" ∈ wsL_law := lwc_4 _ (List.mem_of_getElem? (i := 21) rfl)
theorem q94 : Cond.fieldLink RX8 22 "OhmBridgeModel" "text" "[C" ∈ wsL_law := lwc_4 _ (List.mem_of_getElem? (i := 22) rfl)
theorem q95 : Cond.fieldLink RX8 26 "OhmBridgeModel" "got" "[I" ∈ wsL_law := lwc_4 _ (List.mem_of_getElem? (i := 23) rfl)
theorem lwc_5 : ∀ w ∈ wsL_law_r5, w ∈ wsL_law := fun _ h => List.mem_append_left _ (List.mem_append_left _ (List.mem_append_left _ (List.mem_append_left _ (List.mem_append_left _ (List.mem_append_left _ (List.mem_append_left _ (List.mem_append_left _ (List.mem_append_left _ (List.mem_append_left _ (List.mem_append_right _ (List.mem_append_right _ (List.mem_append_right _ (List.mem_append_right _ (List.mem_append_left _ h))))))))))))))
theorem q96 : Cond.fieldLink RX8 29 "OhmBridgeModel" "sorted" "[I" ∈ wsL_law := lwc_5 _ (List.mem_of_getElem? (i := 0) rfl)
theorem q97 : Cond.constant RX8 32 (100000) ∈ wsL_law := lwc_5 _ (List.mem_of_getElem? (i := 1) rfl)
theorem q98 : Cond.methodLink RL 13 yX7_table ∈ wsL_law := lwc_5 _ (List.mem_of_getElem? (i := 2) rfl)
theorem q99 : Cond.instanceMethod yX7_table ∈ wsL_law := lwc_5 _ (List.mem_of_getElem? (i := 3) rfl)
theorem q100 : Cond.selects RX7 yX7_table yX7_table ∈ wsL_law := lwc_5 _ (List.mem_of_getElem? (i := 4) rfl)
theorem q101 : Cond.code yX7_table cX7_table 1 (some .int) ∈ wsL_law := lwc_5 _ (List.mem_of_getElem? (i := 5) rfl)
theorem q102 : Cond.fieldLink RX7 51 "OhmBridge$State" "tableCount" "I" ∈ wsL_law := lwc_5 _ (List.mem_of_getElem? (i := 6) rfl)
theorem q103 : Cond.constant RX7 55 (-2000000003) ∈ wsL_law := lwc_5 _ (List.mem_of_getElem? (i := 7) rfl)
theorem q104 : Cond.methodLink RX7 56 yX0_record ∈ wsL_law := lwc_5 _ (List.mem_of_getElem? (i := 8) rfl)
theorem q105 : Cond.instanceMethod yX0_record ∈ wsL_law := lwc_5 _ (List.mem_of_getElem? (i := 9) rfl)
theorem q106 : Cond.selects RX0 yX0_record yX0_record ∈ wsL_law := lwc_5 _ (List.mem_of_getElem? (i := 10) rfl)
theorem q107 : Cond.code yX0_record cX0_record 2 none ∈ wsL_law := lwc_5 _ (List.mem_of_getElem? (i := 11) rfl)
theorem q108 : Cond.fieldLink RX0 18 "OhmBridge$History" "size" "I" ∈ wsL_law := lwc_5 _ (List.mem_of_getElem? (i := 12) rfl)
theorem q109 : Cond.methodLink RX0 22 yX0_dropOldest ∈ wsL_law := lwc_5 _ (List.mem_of_getElem? (i := 13) rfl)
theorem q110 : Cond.instanceMethod yX0_dropOldest ∈ wsL_law := lwc_5 _ (List.mem_of_getElem? (i := 14) rfl)
theorem q111 : Cond.selects RX0 yX0_dropOldest yX0_dropOldest ∈ wsL_law := lwc_5 _ (List.mem_of_getElem? (i := 15) rfl)
theorem q112 : Cond.code yX0_dropOldest cX0_dropOldest 3 none ∈ wsL_law := lwc_5 _ (List.mem_of_getElem? (i := 16) rfl)
theorem q113 : Cond.methodLink RX0 25 yX4_copy ∈ wsL_law := lwc_5 _ (List.mem_of_getElem? (i := 17) rfl)
theorem q114 : Cond.instanceMethod yX4_copy ∈ wsL_law := lwc_5 _ (List.mem_of_getElem? (i := 18) rfl)
theorem q115 : Cond.selects RX4 yX4_copy yX4_copy ∈ wsL_law := lwc_5 _ (List.mem_of_getElem? (i := 19) rfl)
theorem q116 : Cond.code yX4_copy cX4_copy 3 none ∈ wsL_law := lwc_5 _ (List.mem_of_getElem? (i := 20) rfl)
theorem q117 : Cond.fieldLink RX4 42 "OhmBridge$State" "tableCount" "I" ∈ wsL_law := lwc_5 _ (List.mem_of_getElem? (i := 21) rfl)
theorem q118 : Cond.fieldLink RX4 45 "OhmBridge$State" "sensorCount" "I" ∈ wsL_law := lwc_5 _ (List.mem_of_getElem? (i := 22) rfl)
theorem q119 : Cond.methodLink RX4 48 yX5_copy ∈ wsL_law := lwc_5 _ (List.mem_of_getElem? (i := 23) rfl)
theorem lwc_6 : ∀ w ∈ wsL_law_r6, w ∈ wsL_law := fun _ h => List.mem_append_left _ (List.mem_append_left _ (List.mem_append_left _ (List.mem_append_left _ (List.mem_append_left _ (List.mem_append_left _ (List.mem_append_left _ (List.mem_append_left _ (List.mem_append_left _ (List.mem_append_left _ (List.mem_append_right _ (List.mem_append_right _ (List.mem_append_right _ (List.mem_append_right _ (List.mem_append_right _ (List.mem_append_left _ h)))))))))))))))
theorem q120 : Cond.instanceMethod yX5_copy ∈ wsL_law := lwc_6 _ (List.mem_of_getElem? (i := 0) rfl)
theorem q121 : Cond.selects RX5 yX5_copy yX5_copy ∈ wsL_law := lwc_6 _ (List.mem_of_getElem? (i := 1) rfl)
theorem q122 : Cond.code yX5_copy cX5_copy 2 none ∈ wsL_law := lwc_6 _ (List.mem_of_getElem? (i := 2) rfl)
theorem q123 : Cond.fieldLink RX5 18 "OhmBridge$Table" "nodes" "I" ∈ wsL_law := lwc_6 _ (List.mem_of_getElem? (i := 3) rfl)
theorem q124 : Cond.methodLink RX5 22 arraycopyName ∈ wsL_law := lwc_6 _ (List.mem_of_getElem? (i := 4) rfl)
theorem q125 : Cond.methodLink RX4 52 yX3_copy ∈ wsL_law := lwc_6 _ (List.mem_of_getElem? (i := 5) rfl)
theorem q126 : Cond.instanceMethod yX3_copy ∈ wsL_law := lwc_6 _ (List.mem_of_getElem? (i := 6) rfl)
theorem q127 : Cond.selects RX3 yX3_copy yX3_copy ∈ wsL_law := lwc_6 _ (List.mem_of_getElem? (i := 7) rfl)
theorem q128 : Cond.code yX3_copy cX3_copy 2 none ∈ wsL_law := lwc_6 _ (List.mem_of_getElem? (i := 8) rfl)
theorem q129 : Cond.fieldLink RX3 25 "OhmBridge$Sensor" "table" "I" ∈ wsL_law := lwc_6 _ (List.mem_of_getElem? (i := 9) rfl)
theorem q130 : Cond.fieldLink RX3 28 "OhmBridge$Sensor" "wires" "I" ∈ wsL_law := lwc_6 _ (List.mem_of_getElem? (i := 10) rfl)
theorem q131 : Cond.fieldLink RX3 31 "OhmBridge$Sensor" "trueBase" "I" ∈ wsL_law := lwc_6 _ (List.mem_of_getElem? (i := 11) rfl)
theorem q132 : Cond.fieldLink RX3 34 "OhmBridge$Sensor" "assumedBase" "I" ∈ wsL_law := lwc_6 _ (List.mem_of_getElem? (i := 12) rfl)
theorem q133 : Cond.fieldLink RX3 37 "OhmBridge$Sensor" "temperature" "I" ∈ wsL_law := lwc_6 _ (List.mem_of_getElem? (i := 13) rfl)
theorem q134 : Cond.fieldLink RX3 46 "OhmBridge$Sensor" "brokenWires" "I" ∈ wsL_law := lwc_6 _ (List.mem_of_getElem? (i := 14) rfl)
theorem q135 : Cond.fieldLink RX3 49 "OhmBridge$Sensor" "low" "I" ∈ wsL_law := lwc_6 _ (List.mem_of_getElem? (i := 15) rfl)
theorem q136 : Cond.fieldLink RX3 52 "OhmBridge$Sensor" "high" "I" ∈ wsL_law := lwc_6 _ (List.mem_of_getElem? (i := 16) rfl)
theorem q137 : Cond.fieldLink RX3 55 "OhmBridge$Sensor" "hysteresis" "I" ∈ wsL_law := lwc_6 _ (List.mem_of_getElem? (i := 17) rfl)
theorem q138 : Cond.fieldLink RX3 58 "OhmBridge$Sensor" "alarm" "I" ∈ wsL_law := lwc_6 _ (List.mem_of_getElem? (i := 18) rfl)
theorem q139 : Cond.fieldLink RX3 61 "OhmBridge$Sensor" "readings" "I" ∈ wsL_law := lwc_6 _ (List.mem_of_getElem? (i := 19) rfl)
theorem q140 : Cond.methodLink RX3 64 arraycopyName ∈ wsL_law := lwc_6 _ (List.mem_of_getElem? (i := 20) rfl)
theorem q141 : Cond.methodLink RL 17 yX8_table ∈ wsL_law := lwc_6 _ (List.mem_of_getElem? (i := 21) rfl)
theorem q142 : Cond.instanceMethod yX8_table ∈ wsL_law := lwc_6 _ (List.mem_of_getElem? (i := 22) rfl)
theorem q143 : Cond.selects RX8 yX8_table yX8_table ∈ wsL_law := lwc_6 _ (List.mem_of_getElem? (i := 23) rfl)
theorem lwc_7 : ∀ w ∈ wsL_law_r7, w ∈ wsL_law := fun _ h => List.mem_append_left _ (List.mem_append_left _ (List.mem_append_left _ (List.mem_append_left _ (List.mem_append_left _ (List.mem_append_left _ (List.mem_append_left _ (List.mem_append_left _ (List.mem_append_left _ (List.mem_append_left _ (List.mem_append_right _ (List.mem_append_right _ (List.mem_append_right _ (List.mem_append_right _ (List.mem_append_right _ (List.mem_append_right _ (List.mem_append_left _ h))))))))))))))))
theorem q144 : Cond.code yX8_table cX8_table 1 (some .int) ∈ wsL_law := lwc_7 _ (List.mem_of_getElem? (i := 0) rfl)
theorem q145 : Cond.constant RX8 72 (-2000000003) ∈ wsL_law := lwc_7 _ (List.mem_of_getElem? (i := 1) rfl)
theorem q146 : Cond.methodLink RX8 73 yX8_keeps ∈ wsL_law := lwc_7 _ (List.mem_of_getElem? (i := 2) rfl)
theorem q147 : Cond.instanceMethod yX8_keeps ∈ wsL_law := lwc_7 _ (List.mem_of_getElem? (i := 3) rfl)
theorem q148 : Cond.selects RX8 yX8_keeps yX8_keeps ∈ wsL_law := lwc_7 _ (List.mem_of_getElem? (i := 4) rfl)
theorem q149 : Cond.code yX8_keeps cX8_keeps 2 none ∈ wsL_law := lwc_7 _ (List.mem_of_getElem? (i := 5) rfl)
theorem q150 : Cond.methodLink RX8 76 yX8_acted ∈ wsL_law := lwc_7 _ (List.mem_of_getElem? (i := 6) rfl)
theorem q151 : Cond.instanceMethod yX8_acted ∈ wsL_law := lwc_7 _ (List.mem_of_getElem? (i := 7) rfl)
theorem q152 : Cond.selects RX8 yX8_acted yX8_acted ∈ wsL_law := lwc_7 _ (List.mem_of_getElem? (i := 8) rfl)
theorem q153 : Cond.code yX8_acted cX8_acted 3 (some .int) ∈ wsL_law := lwc_7 _ (List.mem_of_getElem? (i := 9) rfl)
theorem q154 : Cond.constant RX8 47 (-2000000001) ∈ wsL_law := lwc_7 _ (List.mem_of_getElem? (i := 10) rfl)
theorem q155 : Cond.fieldLink RX8 48 "OhmBridgeModel" "states" "I" ∈ wsL_law := lwc_7 _ (List.mem_of_getElem? (i := 11) rfl)
theorem q156 : Cond.methodLink RL 18 yX7_node ∈ wsL_law := lwc_7 _ (List.mem_of_getElem? (i := 12) rfl)
theorem q157 : Cond.instanceMethod yX7_node ∈ wsL_law := lwc_7 _ (List.mem_of_getElem? (i := 13) rfl)
theorem q158 : Cond.selects RX7 yX7_node yX7_node ∈ wsL_law := lwc_7 _ (List.mem_of_getElem? (i := 14) rfl)
theorem q159 : Cond.code yX7_node cX7_node 5 (some .int) ∈ wsL_law := lwc_7 _ (List.mem_of_getElem? (i := 15) rfl)
theorem q160 : Cond.constantLong RX7 68 (10000000) ∈ wsL_law := lwc_7 _ (List.mem_of_getElem? (i := 16) rfl)
theorem q161 : Cond.constant RX7 74 (-2000000001) ∈ wsL_law := lwc_7 _ (List.mem_of_getElem? (i := 17) rfl)
theorem q162 : Cond.constant RX7 84 (-2000000002) ∈ wsL_law := lwc_7 _ (List.mem_of_getElem? (i := 18) rfl)
theorem q163 : Cond.fieldLink RX7 85 "OhmBridge$Table" "nodes" "I" ∈ wsL_law := lwc_7 _ (List.mem_of_getElem? (i := 19) rfl)
theorem q164 : Cond.methodLink RX7 60 yX4_tableAt ∈ wsL_law := lwc_7 _ (List.mem_of_getElem? (i := 20) rfl)
theorem q165 : Cond.instanceMethod yX4_tableAt ∈ wsL_law := lwc_7 _ (List.mem_of_getElem? (i := 21) rfl)
theorem q166 : Cond.selects RX4 yX4_tableAt yX4_tableAt ∈ wsL_law := lwc_7 _ (List.mem_of_getElem? (i := 22) rfl)
theorem q167 : Cond.code yX4_tableAt cX4_tableAt 3 (some (.object "OhmBridge$Table")) ∈ wsL_law := lwc_7 _ (List.mem_of_getElem? (i := 23) rfl)
theorem lwc_8 : ∀ w ∈ wsL_law_r8, w ∈ wsL_law := fun _ h => List.mem_append_left _ (List.mem_append_left _ (List.mem_append_left _ (List.mem_append_left _ (List.mem_append_left _ (List.mem_append_left _ (List.mem_append_left _ (List.mem_append_left _ (List.mem_append_left _ (List.mem_append_left _ (List.mem_append_right _ (List.mem_append_right _ (List.mem_append_right _ (List.mem_append_right _ (List.mem_append_right _ (List.mem_append_right _ (List.mem_append_right _ (List.mem_append_left _ h)))))))))))))))))
theorem q168 : Cond.methodLink RX7 64 yX7_isTemperature ∈ wsL_law := lwc_8 _ (List.mem_of_getElem? (i := 0) rfl)
theorem q169 : Cond.static yX7_isTemperature ∈ wsL_law := lwc_8 _ (List.mem_of_getElem? (i := 1) rfl)
theorem q170 : Cond.code yX7_isTemperature cX7_isTemperature 1 (some .boolean) ∈ wsL_law := lwc_8 _ (List.mem_of_getElem? (i := 2) rfl)
theorem q171 : Cond.constantLong RX7 432 (-200000) ∈ wsL_law := lwc_8 _ (List.mem_of_getElem? (i := 3) rfl)
theorem q172 : Cond.constantLong RX7 232 (850000) ∈ wsL_law := lwc_8 _ (List.mem_of_getElem? (i := 4) rfl)
theorem q173 : Cond.methodLink RX7 70 yX7_isWithin ∈ wsL_law := lwc_8 _ (List.mem_of_getElem? (i := 5) rfl)
theorem q174 : Cond.static yX7_isWithin ∈ wsL_law := lwc_8 _ (List.mem_of_getElem? (i := 6) rfl)
theorem q175 : Cond.code yX7_isWithin cX7_isWithin 6 (some .boolean) ∈ wsL_law := lwc_8 _ (List.mem_of_getElem? (i := 7) rfl)
theorem q176 : Cond.methodLink RX7 75 yX4_hasSensorOf ∈ wsL_law := lwc_8 _ (List.mem_of_getElem? (i := 8) rfl)
theorem q177 : Cond.instanceMethod yX4_hasSensorOf ∈ wsL_law := lwc_8 _ (List.mem_of_getElem? (i := 9) rfl)
theorem q178 : Cond.selects RX4 yX4_hasSensorOf yX4_hasSensorOf ∈ wsL_law := lwc_8 _ (List.mem_of_getElem? (i := 10) rfl)
theorem q179 : Cond.code yX4_hasSensorOf cX4_hasSensorOf 3 (some .boolean) ∈ wsL_law := lwc_8 _ (List.mem_of_getElem? (i := 11) rfl)
theorem q180 : Cond.fieldLink RX4 55 "OhmBridge$Sensor" "table" "I" ∈ wsL_law := lwc_8 _ (List.mem_of_getElem? (i := 12) rfl)
theorem q181 : Cond.methodLink RX7 78 yX5_mayGoOn ∈ wsL_law := lwc_8 _ (List.mem_of_getElem? (i := 13) rfl)
theorem q182 : Cond.instanceMethod yX5_mayGoOn ∈ wsL_law := lwc_8 _ (List.mem_of_getElem? (i := 14) rfl)
theorem q183 : Cond.selects RX5 yX5_mayGoOn yX5_mayGoOn ∈ wsL_law := lwc_8 _ (List.mem_of_getElem? (i := 15) rfl)
theorem q184 : Cond.code yX5_mayGoOn cX5_mayGoOn 3 (some .boolean) ∈ wsL_law := lwc_8 _ (List.mem_of_getElem? (i := 16) rfl)
theorem q185 : Cond.methodLink RX5 28 yX5_temperatureOf ∈ wsL_law := lwc_8 _ (List.mem_of_getElem? (i := 17) rfl)
theorem q186 : Cond.instanceMethod yX5_temperatureOf ∈ wsL_law := lwc_8 _ (List.mem_of_getElem? (i := 18) rfl)
theorem q187 : Cond.selects RX5 yX5_temperatureOf yX5_temperatureOf ∈ wsL_law := lwc_8 _ (List.mem_of_getElem? (i := 19) rfl)
theorem q188 : Cond.code yX5_temperatureOf cX5_temperatureOf 2 (some .int) ∈ wsL_law := lwc_8 _ (List.mem_of_getElem? (i := 20) rfl)
theorem q189 : Cond.methodLink RX5 32 yX5_ratioOf ∈ wsL_law := lwc_8 _ (List.mem_of_getElem? (i := 21) rfl)
theorem q190 : Cond.instanceMethod yX5_ratioOf ∈ wsL_law := lwc_8 _ (List.mem_of_getElem? (i := 22) rfl)
theorem q191 : Cond.selects RX5 yX5_ratioOf yX5_ratioOf ∈ wsL_law := lwc_8 _ (List.mem_of_getElem? (i := 23) rfl)
theorem lwc_9 : ∀ w ∈ wsL_law_r9, w ∈ wsL_law := fun _ h => List.mem_append_left _ (List.mem_append_left _ (List.mem_append_left _ (List.mem_append_left _ (List.mem_append_left _ (List.mem_append_left _ (List.mem_append_left _ (List.mem_append_left _ (List.mem_append_left _ (List.mem_append_left _ (List.mem_append_right _ (List.mem_append_right _ (List.mem_append_right _ (List.mem_append_right _ (List.mem_append_right _ (List.mem_append_right _ (List.mem_append_right _ (List.mem_append_right _ (List.mem_append_left _ h))))))))))))))))))
theorem q192 : Cond.code yX5_ratioOf cX5_ratioOf 2 (some .int) ∈ wsL_law := lwc_9 _ (List.mem_of_getElem? (i := 0) rfl)
theorem q193 : Cond.methodLink RX7 88 yX5_append ∈ wsL_law := lwc_9 _ (List.mem_of_getElem? (i := 1) rfl)
theorem q194 : Cond.instanceMethod yX5_append ∈ wsL_law := lwc_9 _ (List.mem_of_getElem? (i := 2) rfl)
theorem q195 : Cond.selects RX5 yX5_append yX5_append ∈ wsL_law := lwc_9 _ (List.mem_of_getElem? (i := 3) rfl)
theorem q196 : Cond.code yX5_append cX5_append 3 none ∈ wsL_law := lwc_9 _ (List.mem_of_getElem? (i := 4) rfl)
theorem q197 : Cond.methodLink RL 22 yX8_node ∈ wsL_law := lwc_9 _ (List.mem_of_getElem? (i := 5) rfl)
theorem q198 : Cond.instanceMethod yX8_node ∈ wsL_law := lwc_9 _ (List.mem_of_getElem? (i := 6) rfl)
theorem q199 : Cond.selects RX8 yX8_node yX8_node ∈ wsL_law := lwc_9 _ (List.mem_of_getElem? (i := 7) rfl)
theorem q200 : Cond.code yX8_node cX8_node 7 (some .int) ∈ wsL_law := lwc_9 _ (List.mem_of_getElem? (i := 8) rfl)
theorem q201 : Cond.constant RX8 85 (10000000) ∈ wsL_law := lwc_9 _ (List.mem_of_getElem? (i := 9) rfl)
theorem q202 : Cond.constant RX8 86 (-2000000002) ∈ wsL_law := lwc_9 _ (List.mem_of_getElem? (i := 10) rfl)
theorem q203 : Cond.methodLink RX8 79 yX8_isTable ∈ wsL_law := lwc_9 _ (List.mem_of_getElem? (i := 11) rfl)
theorem q204 : Cond.instanceMethod yX8_isTable ∈ wsL_law := lwc_9 _ (List.mem_of_getElem? (i := 12) rfl)
theorem q205 : Cond.selects RX8 yX8_isTable yX8_isTable ∈ wsL_law := lwc_9 _ (List.mem_of_getElem? (i := 13) rfl)
theorem q206 : Cond.code yX8_isTable cX8_isTable 2 (some .boolean) ∈ wsL_law := lwc_9 _ (List.mem_of_getElem? (i := 14) rfl)
theorem q207 : Cond.methodLink RX8 35 yX8_in ∈ wsL_law := lwc_9 _ (List.mem_of_getElem? (i := 15) rfl)
theorem q208 : Cond.static yX8_in ∈ wsL_law := lwc_9 _ (List.mem_of_getElem? (i := 16) rfl)
theorem q209 : Cond.code yX8_in cX8_in 3 (some .boolean) ∈ wsL_law := lwc_9 _ (List.mem_of_getElem? (i := 17) rfl)
theorem q210 : Cond.methodLink RX8 82 yX8_isDegree ∈ wsL_law := lwc_9 _ (List.mem_of_getElem? (i := 18) rfl)
theorem q211 : Cond.static yX8_isDegree ∈ wsL_law := lwc_9 _ (List.mem_of_getElem? (i := 19) rfl)
theorem q212 : Cond.code yX8_isDegree cX8_isDegree 1 (some .boolean) ∈ wsL_law := lwc_9 _ (List.mem_of_getElem? (i := 20) rfl)
theorem q213 : Cond.constant RX8 33 (-200000) ∈ wsL_law := lwc_9 _ (List.mem_of_getElem? (i := 21) rfl)
theorem q214 : Cond.constant RX8 34 (850000) ∈ wsL_law := lwc_9 _ (List.mem_of_getElem? (i := 22) rfl)
theorem q215 : Cond.methodLink RX8 55 yX8_nodes ∈ wsL_law := lwc_9 _ (List.mem_of_getElem? (i := 23) rfl)
theorem lwc_10 : ∀ w ∈ wsL_law_r10, w ∈ wsL_law := fun _ h => List.mem_append_left _ (List.mem_append_left _ (List.mem_append_left _ (List.mem_append_left _ (List.mem_append_left _ (List.mem_append_left _ (List.mem_append_left _ (List.mem_append_left _ (List.mem_append_left _ (List.mem_append_left _ (List.mem_append_right _ (List.mem_append_right _ (List.mem_append_right _ (List.mem_append_right _ (List.mem_append_right _ (List.mem_append_right _ (List.mem_append_right _ (List.mem_append_right _ (List.mem_append_right _ (List.mem_append_left _ h)))))))))))))))))))
theorem q216 : Cond.instanceMethod yX8_nodes ∈ wsL_law := lwc_10 _ (List.mem_of_getElem? (i := 0) rfl)
theorem q217 : Cond.selects RX8 yX8_nodes yX8_nodes ∈ wsL_law := lwc_10 _ (List.mem_of_getElem? (i := 1) rfl)
theorem q218 : Cond.code yX8_nodes cX8_nodes 2 (some .int) ∈ wsL_law := lwc_10 _ (List.mem_of_getElem? (i := 2) rfl)
theorem q219 : Cond.methodLink RX8 52 yX8_degree ∈ wsL_law := lwc_10 _ (List.mem_of_getElem? (i := 3) rfl)
theorem q220 : Cond.instanceMethod yX8_degree ∈ wsL_law := lwc_10 _ (List.mem_of_getElem? (i := 4) rfl)
theorem q221 : Cond.selects RX8 yX8_degree yX8_degree ∈ wsL_law := lwc_10 _ (List.mem_of_getElem? (i := 5) rfl)
theorem q222 : Cond.code yX8_degree cX8_degree 3 (some .int) ∈ wsL_law := lwc_10 _ (List.mem_of_getElem? (i := 6) rfl)
theorem q223 : Cond.methodLink RX8 65 yX8_ratioOf ∈ wsL_law := lwc_10 _ (List.mem_of_getElem? (i := 7) rfl)
theorem q224 : Cond.instanceMethod yX8_ratioOf ∈ wsL_law := lwc_10 _ (List.mem_of_getElem? (i := 8) rfl)
theorem q225 : Cond.selects RX8 yX8_ratioOf yX8_ratioOf ∈ wsL_law := lwc_10 _ (List.mem_of_getElem? (i := 9) rfl)
theorem q226 : Cond.code yX8_ratioOf cX8_ratioOf 3 (some .int) ∈ wsL_law := lwc_10 _ (List.mem_of_getElem? (i := 10) rfl)
theorem q227 : Cond.methodLink RX8 43 yX8_of ∈ wsL_law := lwc_10 _ (List.mem_of_getElem? (i := 11) rfl)
theorem q228 : Cond.instanceMethod yX8_of ∈ wsL_law := lwc_10 _ (List.mem_of_getElem? (i := 12) rfl)
theorem q229 : Cond.selects RX8 yX8_of yX8_of ∈ wsL_law := lwc_10 _ (List.mem_of_getElem? (i := 13) rfl)
theorem q230 : Cond.code yX8_of cX8_of 3 (some .int) ∈ wsL_law := lwc_10 _ (List.mem_of_getElem? (i := 14) rfl)
theorem q231 : Cond.methodLink RL 23 yX7_nodeAt ∈ wsL_law := lwc_10 _ (List.mem_of_getElem? (i := 15) rfl)
theorem q232 : Cond.instanceMethod yX7_nodeAt ∈ wsL_law := lwc_10 _ (List.mem_of_getElem? (i := 16) rfl)
theorem q233 : Cond.selects RX7 yX7_nodeAt yX7_nodeAt ∈ wsL_law := lwc_10 _ (List.mem_of_getElem? (i := 17) rfl)
theorem q234 : Cond.code yX7_nodeAt cX7_nodeAt 5 (some .int) ∈ wsL_law := lwc_10 _ (List.mem_of_getElem? (i := 18) rfl)
theorem q235 : Cond.constant RX7 92 (-2000000004) ∈ wsL_law := lwc_10 _ (List.mem_of_getElem? (i := 19) rfl)
theorem q236 : Cond.methodLink RX7 93 yX5_temperatureOf ∈ wsL_law := lwc_10 _ (List.mem_of_getElem? (i := 20) rfl)
theorem q237 : Cond.methodLink RX7 97 yX5_ratioOf ∈ wsL_law := lwc_10 _ (List.mem_of_getElem? (i := 21) rfl)
theorem q238 : Cond.methodLink RL 26 yX8_nodeAt ∈ wsL_law := lwc_10 _ (List.mem_of_getElem? (i := 22) rfl)
theorem q239 : Cond.instanceMethod yX8_nodeAt ∈ wsL_law := lwc_10 _ (List.mem_of_getElem? (i := 23) rfl)
theorem lwc_11 : ∀ w ∈ wsL_law_r11, w ∈ wsL_law := fun _ h => List.mem_append_left _ (List.mem_append_left _ (List.mem_append_left _ (List.mem_append_left _ (List.mem_append_left _ (List.mem_append_left _ (List.mem_append_left _ (List.mem_append_left _ (List.mem_append_left _ (List.mem_append_left _ (List.mem_append_right _ (List.mem_append_right _ (List.mem_append_right _ (List.mem_append_right _ (List.mem_append_right _ (List.mem_append_right _ (List.mem_append_right _ (List.mem_append_right _ (List.mem_append_right _ (List.mem_append_right _ (List.mem_append_left _ h))))))))))))))))))))
theorem q240 : Cond.selects RX8 yX8_nodeAt yX8_nodeAt ∈ wsL_law := lwc_11 _ (List.mem_of_getElem? (i := 0) rfl)
theorem q241 : Cond.code yX8_nodeAt cX8_nodeAt 4 (some .int) ∈ wsL_law := lwc_11 _ (List.mem_of_getElem? (i := 1) rfl)
theorem q242 : Cond.constant RX8 68 (-2000000004) ∈ wsL_law := lwc_11 _ (List.mem_of_getElem? (i := 2) rfl)
theorem q243 : Cond.methodLink RL 27 yX7_ratio ∈ wsL_law := lwc_11 _ (List.mem_of_getElem? (i := 3) rfl)
theorem q244 : Cond.instanceMethod yX7_ratio ∈ wsL_law := lwc_11 _ (List.mem_of_getElem? (i := 4) rfl)
theorem q245 : Cond.selects RX7 yX7_ratio yX7_ratio ∈ wsL_law := lwc_11 _ (List.mem_of_getElem? (i := 5) rfl)
theorem q246 : Cond.code yX7_ratio cX7_ratio 4 (some .int) ∈ wsL_law := lwc_11 _ (List.mem_of_getElem? (i := 6) rfl)
theorem q247 : Cond.methodLink RX7 100 yX5_goesTo ∈ wsL_law := lwc_11 _ (List.mem_of_getElem? (i := 7) rfl)
theorem q248 : Cond.instanceMethod yX5_goesTo ∈ wsL_law := lwc_11 _ (List.mem_of_getElem? (i := 8) rfl)
theorem q249 : Cond.selects RX5 yX5_goesTo yX5_goesTo ∈ wsL_law := lwc_11 _ (List.mem_of_getElem? (i := 9) rfl)
theorem q250 : Cond.code yX5_goesTo cX5_goesTo 2 (some .boolean) ∈ wsL_law := lwc_11 _ (List.mem_of_getElem? (i := 10) rfl)
theorem q251 : Cond.methodLink RX7 103 yX5_ratioAt ∈ wsL_law := lwc_11 _ (List.mem_of_getElem? (i := 11) rfl)
theorem q252 : Cond.instanceMethod yX5_ratioAt ∈ wsL_law := lwc_11 _ (List.mem_of_getElem? (i := 12) rfl)
theorem q253 : Cond.selects RX5 yX5_ratioAt yX5_ratioAt ∈ wsL_law := lwc_11 _ (List.mem_of_getElem? (i := 13) rfl)
theorem q254 : Cond.code yX5_ratioAt cX5_ratioAt 9 (some .int) ∈ wsL_law := lwc_11 _ (List.mem_of_getElem? (i := 14) rfl)
theorem q255 : Cond.methodLink RL 31 yX8_ratio ∈ wsL_law := lwc_11 _ (List.mem_of_getElem? (i := 15) rfl)
theorem q256 : Cond.instanceMethod yX8_ratio ∈ wsL_law := lwc_11 _ (List.mem_of_getElem? (i := 16) rfl)
theorem q257 : Cond.selects RX8 yX8_ratio yX8_ratio ∈ wsL_law := lwc_11 _ (List.mem_of_getElem? (i := 17) rfl)
theorem q258 : Cond.code yX8_ratio cX8_ratio 3 (some .int) ∈ wsL_law := lwc_11 _ (List.mem_of_getElem? (i := 18) rfl)
theorem q259 : Cond.methodLink RX8 87 yX8_goes ∈ wsL_law := lwc_11 _ (List.mem_of_getElem? (i := 19) rfl)
theorem q260 : Cond.instanceMethod yX8_goes ∈ wsL_law := lwc_11 _ (List.mem_of_getElem? (i := 20) rfl)
theorem q261 : Cond.selects RX8 yX8_goes yX8_goes ∈ wsL_law := lwc_11 _ (List.mem_of_getElem? (i := 21) rfl)
theorem q262 : Cond.code yX8_goes cX8_goes 3 (some .boolean) ∈ wsL_law := lwc_11 _ (List.mem_of_getElem? (i := 22) rfl)
theorem q263 : Cond.methodLink RX8 59 yX8_first ∈ wsL_law := lwc_11 _ (List.mem_of_getElem? (i := 23) rfl)
theorem lwc_12 : ∀ w ∈ wsL_law_r12, w ∈ wsL_law := fun _ h => List.mem_append_left _ (List.mem_append_left _ (List.mem_append_left _ (List.mem_append_left _ (List.mem_append_left _ (List.mem_append_left _ (List.mem_append_left _ (List.mem_append_left _ (List.mem_append_left _ (List.mem_append_left _ (List.mem_append_right _ (List.mem_append_right _ (List.mem_append_right _ (List.mem_append_right _ (List.mem_append_right _ (List.mem_append_right _ (List.mem_append_right _ (List.mem_append_right _ (List.mem_append_right _ (List.mem_append_right _ (List.mem_append_right _ (List.mem_append_left _ h)))))))))))))))))))))
theorem q264 : Cond.instanceMethod yX8_first ∈ wsL_law := lwc_12 _ (List.mem_of_getElem? (i := 0) rfl)
theorem q265 : Cond.selects RX8 yX8_first yX8_first ∈ wsL_law := lwc_12 _ (List.mem_of_getElem? (i := 1) rfl)
theorem q266 : Cond.code yX8_first cX8_first 2 (some .int) ∈ wsL_law := lwc_12 _ (List.mem_of_getElem? (i := 2) rfl)
theorem q267 : Cond.methodLink RX8 62 yX8_last ∈ wsL_law := lwc_12 _ (List.mem_of_getElem? (i := 3) rfl)
theorem q268 : Cond.instanceMethod yX8_last ∈ wsL_law := lwc_12 _ (List.mem_of_getElem? (i := 4) rfl)
theorem q269 : Cond.selects RX8 yX8_last yX8_last ∈ wsL_law := lwc_12 _ (List.mem_of_getElem? (i := 5) rfl)
theorem q270 : Cond.code yX8_last cX8_last 2 (some .int) ∈ wsL_law := lwc_12 _ (List.mem_of_getElem? (i := 6) rfl)
theorem q271 : Cond.methodLink RX8 69 yX8_ratioAt ∈ wsL_law := lwc_12 _ (List.mem_of_getElem? (i := 7) rfl)
theorem q272 : Cond.instanceMethod yX8_ratioAt ∈ wsL_law := lwc_12 _ (List.mem_of_getElem? (i := 8) rfl)
theorem q273 : Cond.selects RX8 yX8_ratioAt yX8_ratioAt ∈ wsL_law := lwc_12 _ (List.mem_of_getElem? (i := 9) rfl)
theorem q274 : Cond.code yX8_ratioAt cX8_ratioAt 6 (some .int) ∈ wsL_law := lwc_12 _ (List.mem_of_getElem? (i := 10) rfl)
theorem q275 : Cond.methodLink RL 32 yX7_inverse ∈ wsL_law := lwc_12 _ (List.mem_of_getElem? (i := 11) rfl)
theorem q276 : Cond.instanceMethod yX7_inverse ∈ wsL_law := lwc_12 _ (List.mem_of_getElem? (i := 12) rfl)
theorem q277 : Cond.selects RX7 yX7_inverse yX7_inverse ∈ wsL_law := lwc_12 _ (List.mem_of_getElem? (i := 13) rfl)
theorem q278 : Cond.code yX7_inverse cX7_inverse 4 (some .int) ∈ wsL_law := lwc_12 _ (List.mem_of_getElem? (i := 14) rfl)
theorem q279 : Cond.methodLink RX7 106 yX5_temperatureFor ∈ wsL_law := lwc_12 _ (List.mem_of_getElem? (i := 15) rfl)
theorem q280 : Cond.instanceMethod yX5_temperatureFor ∈ wsL_law := lwc_12 _ (List.mem_of_getElem? (i := 16) rfl)
theorem q281 : Cond.selects RX5 yX5_temperatureFor yX5_temperatureFor ∈ wsL_law := lwc_12 _ (List.mem_of_getElem? (i := 17) rfl)
theorem q282 : Cond.code yX5_temperatureFor cX5_temperatureFor 7 (some .int) ∈ wsL_law := lwc_12 _ (List.mem_of_getElem? (i := 18) rfl)
theorem q283 : Cond.constant RX5 44 (-2000000004) ∈ wsL_law := lwc_12 _ (List.mem_of_getElem? (i := 19) rfl)
theorem q284 : Cond.methodLink RX5 45 yX5_ratioAt ∈ wsL_law := lwc_12 _ (List.mem_of_getElem? (i := 20) rfl)
theorem q285 : Cond.methodLink RL 35 yX8_inverse ∈ wsL_law := lwc_12 _ (List.mem_of_getElem? (i := 21) rfl)
theorem q286 : Cond.instanceMethod yX8_inverse ∈ wsL_law := lwc_12 _ (List.mem_of_getElem? (i := 22) rfl)
theorem q287 : Cond.selects RX8 yX8_inverse yX8_inverse ∈ wsL_law := lwc_12 _ (List.mem_of_getElem? (i := 23) rfl)
theorem lwc_13 : ∀ w ∈ wsL_law_r13, w ∈ wsL_law := fun _ h => List.mem_append_left _ (List.mem_append_left _ (List.mem_append_left _ (List.mem_append_left _ (List.mem_append_left _ (List.mem_append_left _ (List.mem_append_left _ (List.mem_append_left _ (List.mem_append_left _ (List.mem_append_left _ (List.mem_append_right _ (List.mem_append_right _ (List.mem_append_right _ (List.mem_append_right _ (List.mem_append_right _ (List.mem_append_right _ (List.mem_append_right _ (List.mem_append_right _ (List.mem_append_right _ (List.mem_append_right _ (List.mem_append_right _ (List.mem_append_right _ (List.mem_append_left _ h))))))))))))))))))))))
theorem q288 : Cond.code yX8_inverse cX8_inverse 3 (some .int) ∈ wsL_law := lwc_13 _ (List.mem_of_getElem? (i := 0) rfl)
theorem q289 : Cond.methodLink RX8 91 yX8_inverseOf ∈ wsL_law := lwc_13 _ (List.mem_of_getElem? (i := 1) rfl)
theorem q290 : Cond.instanceMethod yX8_inverseOf ∈ wsL_law := lwc_13 _ (List.mem_of_getElem? (i := 2) rfl)
theorem q291 : Cond.selects RX8 yX8_inverseOf yX8_inverseOf ∈ wsL_law := lwc_13 _ (List.mem_of_getElem? (i := 3) rfl)
theorem q292 : Cond.code yX8_inverseOf cX8_inverseOf 7 (some .int) ∈ wsL_law := lwc_13 _ (List.mem_of_getElem? (i := 4) rfl)
theorem q293 : Cond.methodLink RL 36 yX7_sensor ∈ wsL_law := lwc_13 _ (List.mem_of_getElem? (i := 5) rfl)
theorem q294 : Cond.instanceMethod yX7_sensor ∈ wsL_law := lwc_13 _ (List.mem_of_getElem? (i := 6) rfl)
theorem q295 : Cond.selects RX7 yX7_sensor yX7_sensor ∈ wsL_law := lwc_13 _ (List.mem_of_getElem? (i := 7) rfl)
theorem q296 : Cond.code yX7_sensor cX7_sensor 6 (some .int) ∈ wsL_law := lwc_13 _ (List.mem_of_getElem? (i := 8) rfl)
theorem q297 : Cond.constantLong RX7 110 (2) ∈ wsL_law := lwc_13 _ (List.mem_of_getElem? (i := 9) rfl)
theorem q298 : Cond.constantLong RX7 112 (4) ∈ wsL_law := lwc_13 _ (List.mem_of_getElem? (i := 10) rfl)
theorem q299 : Cond.fieldLink RX7 118 "OhmBridge$State" "sensorCount" "I" ∈ wsL_law := lwc_13 _ (List.mem_of_getElem? (i := 11) rfl)
theorem q300 : Cond.methodLink RX7 114 yX7_isBase ∈ wsL_law := lwc_13 _ (List.mem_of_getElem? (i := 12) rfl)
theorem q301 : Cond.static yX7_isBase ∈ wsL_law := lwc_13 _ (List.mem_of_getElem? (i := 13) rfl)
theorem q302 : Cond.code yX7_isBase cX7_isBase 2 (some .boolean) ∈ wsL_law := lwc_13 _ (List.mem_of_getElem? (i := 14) rfl)
theorem q303 : Cond.constantLong RX7 434 (1000) ∈ wsL_law := lwc_13 _ (List.mem_of_getElem? (i := 15) rfl)
theorem q304 : Cond.constantLong RX7 436 (2000000) ∈ wsL_law := lwc_13 _ (List.mem_of_getElem? (i := 16) rfl)
theorem q305 : Cond.methodLink RX7 121 yX4_sensorAt ∈ wsL_law := lwc_13 _ (List.mem_of_getElem? (i := 17) rfl)
theorem q306 : Cond.instanceMethod yX4_sensorAt ∈ wsL_law := lwc_13 _ (List.mem_of_getElem? (i := 18) rfl)
theorem q307 : Cond.selects RX4 yX4_sensorAt yX4_sensorAt ∈ wsL_law := lwc_13 _ (List.mem_of_getElem? (i := 19) rfl)
theorem q308 : Cond.code yX4_sensorAt cX4_sensorAt 3 (some (.object "OhmBridge$Sensor")) ∈ wsL_law := lwc_13 _ (List.mem_of_getElem? (i := 20) rfl)
theorem q309 : Cond.methodLink RX7 125 yX5_nearest ∈ wsL_law := lwc_13 _ (List.mem_of_getElem? (i := 21) rfl)
theorem q310 : Cond.instanceMethod yX5_nearest ∈ wsL_law := lwc_13 _ (List.mem_of_getElem? (i := 22) rfl)
theorem q311 : Cond.selects RX5 yX5_nearest yX5_nearest ∈ wsL_law := lwc_13 _ (List.mem_of_getElem? (i := 23) rfl)
theorem lwc_14 : ∀ w ∈ wsL_law_r14, w ∈ wsL_law := fun _ h => List.mem_append_left _ (List.mem_append_left _ (List.mem_append_left _ (List.mem_append_left _ (List.mem_append_left _ (List.mem_append_left _ (List.mem_append_left _ (List.mem_append_left _ (List.mem_append_left _ (List.mem_append_left _ (List.mem_append_right _ (List.mem_append_right _ (List.mem_append_right _ (List.mem_append_right _ (List.mem_append_right _ (List.mem_append_right _ (List.mem_append_right _ (List.mem_append_right _ (List.mem_append_right _ (List.mem_append_right _ (List.mem_append_right _ (List.mem_append_right _ (List.mem_append_right _ (List.mem_append_left _ h)))))))))))))))))))))))
theorem q312 : Cond.code yX5_nearest cX5_nearest 2 (some .int) ∈ wsL_law := lwc_14 _ (List.mem_of_getElem? (i := 0) rfl)
theorem q313 : Cond.methodLink RX5 35 Lib.Math.max.name ∈ wsL_law := lwc_14 _ (List.mem_of_getElem? (i := 1) rfl)
theorem q314 : Cond.static Lib.Math.max.name ∈ wsL_law := lwc_14 _ (List.mem_of_getElem? (i := 2) rfl)
theorem q315 : Cond.initialized "java/lang/Math" ∈ wsL_law := lwc_14 _ (List.mem_of_getElem? (i := 3) rfl)
theorem q316 : Cond.code Lib.Math.max.name Lib.Math.max.code 2 (some .int) ∈ wsL_law := lwc_14 _ (List.mem_of_getElem? (i := 4) rfl)
theorem q317 : Cond.methodLink RX5 41 Lib.Math.min.name ∈ wsL_law := lwc_14 _ (List.mem_of_getElem? (i := 5) rfl)
theorem q318 : Cond.static Lib.Math.min.name ∈ wsL_law := lwc_14 _ (List.mem_of_getElem? (i := 6) rfl)
theorem q319 : Cond.code Lib.Math.min.name Lib.Math.min.code 2 (some .int) ∈ wsL_law := lwc_14 _ (List.mem_of_getElem? (i := 7) rfl)
theorem q320 : Cond.methodLink RX7 128 yX3_begin ∈ wsL_law := lwc_14 _ (List.mem_of_getElem? (i := 8) rfl)
theorem q321 : Cond.instanceMethod yX3_begin ∈ wsL_law := lwc_14 _ (List.mem_of_getElem? (i := 9) rfl)
theorem q322 : Cond.selects RX3 yX3_begin yX3_begin ∈ wsL_law := lwc_14 _ (List.mem_of_getElem? (i := 10) rfl)
theorem q323 : Cond.code yX3_begin cX3_begin 5 none ∈ wsL_law := lwc_14 _ (List.mem_of_getElem? (i := 11) rfl)
theorem q324 : Cond.constant RX3 40 (-200000) ∈ wsL_law := lwc_14 _ (List.mem_of_getElem? (i := 12) rfl)
theorem q325 : Cond.constant RX3 41 (850000) ∈ wsL_law := lwc_14 _ (List.mem_of_getElem? (i := 13) rfl)
theorem q326 : Cond.methodLink RX3 42 yX3_watch ∈ wsL_law := lwc_14 _ (List.mem_of_getElem? (i := 14) rfl)
theorem q327 : Cond.instanceMethod yX3_watch ∈ wsL_law := lwc_14 _ (List.mem_of_getElem? (i := 15) rfl)
theorem q328 : Cond.selects RX3 yX3_watch yX3_watch ∈ wsL_law := lwc_14 _ (List.mem_of_getElem? (i := 16) rfl)
theorem q329 : Cond.code yX3_watch cX3_watch 4 none ∈ wsL_law := lwc_14 _ (List.mem_of_getElem? (i := 17) rfl)
theorem q330 : Cond.methodLink RL 39 yX8_sensor ∈ wsL_law := lwc_14 _ (List.mem_of_getElem? (i := 18) rfl)
theorem q331 : Cond.instanceMethod yX8_sensor ∈ wsL_law := lwc_14 _ (List.mem_of_getElem? (i := 19) rfl)
theorem q332 : Cond.selects RX8 yX8_sensor yX8_sensor ∈ wsL_law := lwc_14 _ (List.mem_of_getElem? (i := 20) rfl)
theorem q333 : Cond.code yX8_sensor cX8_sensor 6 (some .int) ∈ wsL_law := lwc_14 _ (List.mem_of_getElem? (i := 21) rfl)
theorem q334 : Cond.constant RX8 95 (2000000) ∈ wsL_law := lwc_14 _ (List.mem_of_getElem? (i := 22) rfl)
theorem q335 : Cond.methodLink RX8 96 yX8_put ∈ wsL_law := lwc_14 _ (List.mem_of_getElem? (i := 23) rfl)
theorem lwc_15 : ∀ w ∈ wsL_law_r15, w ∈ wsL_law := fun _ h => List.mem_append_left _ (List.mem_append_left _ (List.mem_append_left _ (List.mem_append_left _ (List.mem_append_left _ (List.mem_append_left _ (List.mem_append_left _ (List.mem_append_left _ (List.mem_append_left _ (List.mem_append_left _ (List.mem_append_right _ (List.mem_append_right _ (List.mem_append_right _ (List.mem_append_right _ (List.mem_append_right _ (List.mem_append_right _ (List.mem_append_right _ (List.mem_append_right _ (List.mem_append_right _ (List.mem_append_right _ (List.mem_append_right _ (List.mem_append_right _ (List.mem_append_right _ (List.mem_append_right _ (List.mem_append_left _ h))))))))))))))))))))))))
theorem q336 : Cond.instanceMethod yX8_put ∈ wsL_law := lwc_15 _ (List.mem_of_getElem? (i := 0) rfl)
theorem q337 : Cond.selects RX8 yX8_put yX8_put ∈ wsL_law := lwc_15 _ (List.mem_of_getElem? (i := 1) rfl)
theorem q338 : Cond.code yX8_put cX8_put 4 none ∈ wsL_law := lwc_15 _ (List.mem_of_getElem? (i := 2) rfl)
theorem q339 : Cond.methodLink RL 40 yX7_plug ∈ wsL_law := lwc_15 _ (List.mem_of_getElem? (i := 3) rfl)
theorem q340 : Cond.instanceMethod yX7_plug ∈ wsL_law := lwc_15 _ (List.mem_of_getElem? (i := 4) rfl)
theorem q341 : Cond.selects RX7 yX7_plug yX7_plug ∈ wsL_law := lwc_15 _ (List.mem_of_getElem? (i := 5) rfl)
theorem q342 : Cond.code yX7_plug cX7_plug 6 (some .int) ∈ wsL_law := lwc_15 _ (List.mem_of_getElem? (i := 6) rfl)
theorem q343 : Cond.fieldLink RX7 147 "OhmBridge$Sensor" "place" "I" ∈ wsL_law := lwc_15 _ (List.mem_of_getElem? (i := 7) rfl)
theorem q344 : Cond.methodLink RX7 134 yX7_isSlot ∈ wsL_law := lwc_15 _ (List.mem_of_getElem? (i := 8) rfl)
theorem q345 : Cond.static yX7_isSlot ∈ wsL_law := lwc_15 _ (List.mem_of_getElem? (i := 9) rfl)
theorem q346 : Cond.code yX7_isSlot cX7_isSlot 2 (some .boolean) ∈ wsL_law := lwc_15 _ (List.mem_of_getElem? (i := 10) rfl)
theorem q347 : Cond.constantLong RX7 438 (3) ∈ wsL_law := lwc_15 _ (List.mem_of_getElem? (i := 11) rfl)
theorem q348 : Cond.methodLink RX7 137 yX3_isPlugged ∈ wsL_law := lwc_15 _ (List.mem_of_getElem? (i := 12) rfl)
theorem q349 : Cond.instanceMethod yX3_isPlugged ∈ wsL_law := lwc_15 _ (List.mem_of_getElem? (i := 13) rfl)
theorem q350 : Cond.selects RX3 yX3_isPlugged yX3_isPlugged ∈ wsL_law := lwc_15 _ (List.mem_of_getElem? (i := 14) rfl)
theorem q351 : Cond.code yX3_isPlugged cX3_isPlugged 1 (some .boolean) ∈ wsL_law := lwc_15 _ (List.mem_of_getElem? (i := 15) rfl)
theorem q352 : Cond.methodLink RX7 141 yX4_sensorIn ∈ wsL_law := lwc_15 _ (List.mem_of_getElem? (i := 16) rfl)
theorem q353 : Cond.instanceMethod yX4_sensorIn ∈ wsL_law := lwc_15 _ (List.mem_of_getElem? (i := 17) rfl)
theorem q354 : Cond.selects RX4 yX4_sensorIn yX4_sensorIn ∈ wsL_law := lwc_15 _ (List.mem_of_getElem? (i := 18) rfl)
theorem q355 : Cond.code yX4_sensorIn cX4_sensorIn 3 (some .int) ∈ wsL_law := lwc_15 _ (List.mem_of_getElem? (i := 19) rfl)
theorem q356 : Cond.fieldLink RX4 58 "OhmBridge$Sensor" "place" "I" ∈ wsL_law := lwc_15 _ (List.mem_of_getElem? (i := 20) rfl)
theorem q357 : Cond.methodLink RX7 144 yX3_fits ∈ wsL_law := lwc_15 _ (List.mem_of_getElem? (i := 21) rfl)
theorem q358 : Cond.instanceMethod yX3_fits ∈ wsL_law := lwc_15 _ (List.mem_of_getElem? (i := 22) rfl)
theorem q359 : Cond.selects RX3 yX3_fits yX3_fits ∈ wsL_law := lwc_15 _ (List.mem_of_getElem? (i := 23) rfl)
theorem lwc_16 : ∀ w ∈ wsL_law_r16, w ∈ wsL_law := fun _ h => List.mem_append_left _ (List.mem_append_left _ (List.mem_append_left _ (List.mem_append_left _ (List.mem_append_left _ (List.mem_append_left _ (List.mem_append_left _ (List.mem_append_left _ (List.mem_append_left _ (List.mem_append_left _ (List.mem_append_right _ (List.mem_append_right _ (List.mem_append_right _ (List.mem_append_right _ (List.mem_append_right _ (List.mem_append_right _ (List.mem_append_right _ (List.mem_append_right _ (List.mem_append_right _ (List.mem_append_right _ (List.mem_append_right _ (List.mem_append_right _ (List.mem_append_right _ (List.mem_append_right _ (List.mem_append_right _ (List.mem_append_left _ h)))))))))))))))))))))))))
theorem q360 : Cond.code yX3_fits cX3_fits 2 (some .boolean) ∈ wsL_law := lwc_16 _ (List.mem_of_getElem? (i := 0) rfl)
theorem q361 : Cond.methodLink RX7 150 yX4_takenSlots ∈ wsL_law := lwc_16 _ (List.mem_of_getElem? (i := 1) rfl)
theorem q362 : Cond.instanceMethod yX4_takenSlots ∈ wsL_law := lwc_16 _ (List.mem_of_getElem? (i := 2) rfl)
theorem q363 : Cond.selects RX4 yX4_takenSlots yX4_takenSlots ∈ wsL_law := lwc_16 _ (List.mem_of_getElem? (i := 3) rfl)
theorem q364 : Cond.code yX4_takenSlots cX4_takenSlots 4 (some .int) ∈ wsL_law := lwc_16 _ (List.mem_of_getElem? (i := 4) rfl)
theorem q365 : Cond.methodLink RX4 61 yX4_sensorIn ∈ wsL_law := lwc_16 _ (List.mem_of_getElem? (i := 5) rfl)
theorem q366 : Cond.methodLink RL 43 yX8_plug ∈ wsL_law := lwc_16 _ (List.mem_of_getElem? (i := 6) rfl)
theorem q367 : Cond.instanceMethod yX8_plug ∈ wsL_law := lwc_16 _ (List.mem_of_getElem? (i := 7) rfl)
theorem q368 : Cond.selects RX8 yX8_plug yX8_plug ∈ wsL_law := lwc_16 _ (List.mem_of_getElem? (i := 8) rfl)
theorem q369 : Cond.code yX8_plug cX8_plug 6 (some .int) ∈ wsL_law := lwc_16 _ (List.mem_of_getElem? (i := 9) rfl)
theorem q370 : Cond.methodLink RX8 39 yX8_isSensor ∈ wsL_law := lwc_16 _ (List.mem_of_getElem? (i := 10) rfl)
theorem q371 : Cond.instanceMethod yX8_isSensor ∈ wsL_law := lwc_16 _ (List.mem_of_getElem? (i := 11) rfl)
theorem q372 : Cond.selects RX8 yX8_isSensor yX8_isSensor ∈ wsL_law := lwc_16 _ (List.mem_of_getElem? (i := 12) rfl)
theorem q373 : Cond.code yX8_isSensor cX8_isSensor 2 (some .boolean) ∈ wsL_law := lwc_16 _ (List.mem_of_getElem? (i := 13) rfl)
theorem q374 : Cond.methodLink RX8 100 yX8_inside ∈ wsL_law := lwc_16 _ (List.mem_of_getElem? (i := 14) rfl)
theorem q375 : Cond.instanceMethod yX8_inside ∈ wsL_law := lwc_16 _ (List.mem_of_getElem? (i := 15) rfl)
theorem q376 : Cond.selects RX8 yX8_inside yX8_inside ∈ wsL_law := lwc_16 _ (List.mem_of_getElem? (i := 16) rfl)
theorem q377 : Cond.code yX8_inside cX8_inside 3 (some .int) ∈ wsL_law := lwc_16 _ (List.mem_of_getElem? (i := 17) rfl)
theorem q378 : Cond.methodLink RL 44 yX7_unplug ∈ wsL_law := lwc_16 _ (List.mem_of_getElem? (i := 18) rfl)
theorem q379 : Cond.instanceMethod yX7_unplug ∈ wsL_law := lwc_16 _ (List.mem_of_getElem? (i := 19) rfl)
theorem q380 : Cond.selects RX7 yX7_unplug yX7_unplug ∈ wsL_law := lwc_16 _ (List.mem_of_getElem? (i := 20) rfl)
theorem q381 : Cond.code yX7_unplug cX7_unplug 4 (some .int) ∈ wsL_law := lwc_16 _ (List.mem_of_getElem? (i := 21) rfl)
theorem q382 : Cond.methodLink RX7 153 yX7_toldPlace ∈ wsL_law := lwc_16 _ (List.mem_of_getElem? (i := 22) rfl)
theorem q383 : Cond.static yX7_toldPlace ∈ wsL_law := lwc_16 _ (List.mem_of_getElem? (i := 23) rfl)
theorem lwc_17 : ∀ w ∈ wsL_law_r17, w ∈ wsL_law := fun _ h => List.mem_append_left _ (List.mem_append_left _ (List.mem_append_left _ (List.mem_append_left _ (List.mem_append_left _ (List.mem_append_left _ (List.mem_append_left _ (List.mem_append_left _ (List.mem_append_left _ (List.mem_append_left _ (List.mem_append_right _ (List.mem_append_right _ (List.mem_append_right _ (List.mem_append_right _ (List.mem_append_right _ (List.mem_append_right _ (List.mem_append_right _ (List.mem_append_right _ (List.mem_append_right _ (List.mem_append_right _ (List.mem_append_right _ (List.mem_append_right _ (List.mem_append_right _ (List.mem_append_right _ (List.mem_append_right _ (List.mem_append_right _ (List.mem_append_left _ h))))))))))))))))))))))))))
theorem q384 : Cond.code yX7_toldPlace cX7_toldPlace 1 (some .int) ∈ wsL_law := lwc_17 _ (List.mem_of_getElem? (i := 0) rfl)
theorem q385 : Cond.methodLink RL 48 yX8_unplug ∈ wsL_law := lwc_17 _ (List.mem_of_getElem? (i := 1) rfl)
theorem q386 : Cond.instanceMethod yX8_unplug ∈ wsL_law := lwc_17 _ (List.mem_of_getElem? (i := 2) rfl)
theorem q387 : Cond.selects RX8 yX8_unplug yX8_unplug ∈ wsL_law := lwc_17 _ (List.mem_of_getElem? (i := 3) rfl)
theorem q388 : Cond.code yX8_unplug cX8_unplug 3 (some .int) ∈ wsL_law := lwc_17 _ (List.mem_of_getElem? (i := 4) rfl)
theorem q389 : Cond.methodLink RL 49 yX7_slotAt ∈ wsL_law := lwc_17 _ (List.mem_of_getElem? (i := 5) rfl)
theorem q390 : Cond.instanceMethod yX7_slotAt ∈ wsL_law := lwc_17 _ (List.mem_of_getElem? (i := 6) rfl)
theorem q391 : Cond.selects RX7 yX7_slotAt yX7_slotAt ∈ wsL_law := lwc_17 _ (List.mem_of_getElem? (i := 7) rfl)
theorem q392 : Cond.code yX7_slotAt cX7_slotAt 4 (some .int) ∈ wsL_law := lwc_17 _ (List.mem_of_getElem? (i := 8) rfl)
theorem q393 : Cond.methodLink RL 52 yX8_slotAt ∈ wsL_law := lwc_17 _ (List.mem_of_getElem? (i := 9) rfl)
theorem q394 : Cond.instanceMethod yX8_slotAt ∈ wsL_law := lwc_17 _ (List.mem_of_getElem? (i := 10) rfl)
theorem q395 : Cond.selects RX8 yX8_slotAt yX8_slotAt ∈ wsL_law := lwc_17 _ (List.mem_of_getElem? (i := 11) rfl)
theorem q396 : Cond.code yX8_slotAt cX8_slotAt 4 (some .int) ∈ wsL_law := lwc_17 _ (List.mem_of_getElem? (i := 12) rfl)
theorem q397 : Cond.methodLink RL 53 yX7_bath ∈ wsL_law := lwc_17 _ (List.mem_of_getElem? (i := 13) rfl)
theorem q398 : Cond.instanceMethod yX7_bath ∈ wsL_law := lwc_17 _ (List.mem_of_getElem? (i := 14) rfl)
theorem q399 : Cond.selects RX7 yX7_bath yX7_bath ∈ wsL_law := lwc_17 _ (List.mem_of_getElem? (i := 15) rfl)
theorem q400 : Cond.code yX7_bath cX7_bath 5 (some .int) ∈ wsL_law := lwc_17 _ (List.mem_of_getElem? (i := 16) rfl)
theorem q401 : Cond.fieldLink RX7 160 "OhmBridge$Sensor" "temperature" "I" ∈ wsL_law := lwc_17 _ (List.mem_of_getElem? (i := 17) rfl)
theorem q402 : Cond.methodLink RX7 156 yX4_canBring ∈ wsL_law := lwc_17 _ (List.mem_of_getElem? (i := 18) rfl)
theorem q403 : Cond.instanceMethod yX4_canBring ∈ wsL_law := lwc_17 _ (List.mem_of_getElem? (i := 19) rfl)
theorem q404 : Cond.selects RX4 yX4_canBring yX4_canBring ∈ wsL_law := lwc_17 _ (List.mem_of_getElem? (i := 20) rfl)
theorem q405 : Cond.code yX4_canBring cX4_canBring 4 (some .boolean) ∈ wsL_law := lwc_17 _ (List.mem_of_getElem? (i := 21) rfl)
theorem q406 : Cond.methodLink RX4 74 yX4_tableAt ∈ wsL_law := lwc_17 _ (List.mem_of_getElem? (i := 22) rfl)
theorem q407 : Cond.methodLink RX4 78 yX5_goesTo ∈ wsL_law := lwc_17 _ (List.mem_of_getElem? (i := 23) rfl)
theorem lwc_18 : ∀ w ∈ wsL_law_r18, w ∈ wsL_law := fun _ h => List.mem_append_left _ (List.mem_append_left _ (List.mem_append_left _ (List.mem_append_left _ (List.mem_append_left _ (List.mem_append_left _ (List.mem_append_left _ (List.mem_append_left _ (List.mem_append_left _ (List.mem_append_left _ (List.mem_append_right _ (List.mem_append_right _ (List.mem_append_right _ (List.mem_append_right _ (List.mem_append_right _ (List.mem_append_right _ (List.mem_append_right _ (List.mem_append_right _ (List.mem_append_right _ (List.mem_append_right _ (List.mem_append_right _ (List.mem_append_right _ (List.mem_append_right _ (List.mem_append_right _ (List.mem_append_right _ (List.mem_append_right _ (List.mem_append_right _ (List.mem_append_left _ h)))))))))))))))))))))))))))
theorem q408 : Cond.methodLink RL 56 yX8_bath ∈ wsL_law := lwc_18 _ (List.mem_of_getElem? (i := 0) rfl)
theorem q409 : Cond.instanceMethod yX8_bath ∈ wsL_law := lwc_18 _ (List.mem_of_getElem? (i := 1) rfl)
theorem q410 : Cond.selects RX8 yX8_bath yX8_bath ∈ wsL_law := lwc_18 _ (List.mem_of_getElem? (i := 2) rfl)
theorem q411 : Cond.code yX8_bath cX8_bath 3 (some .int) ∈ wsL_law := lwc_18 _ (List.mem_of_getElem? (i := 3) rfl)
theorem q412 : Cond.methodLink RX8 103 yX8_baths ∈ wsL_law := lwc_18 _ (List.mem_of_getElem? (i := 4) rfl)
theorem q413 : Cond.instanceMethod yX8_baths ∈ wsL_law := lwc_18 _ (List.mem_of_getElem? (i := 5) rfl)
theorem q414 : Cond.selects RX8 yX8_baths yX8_baths ∈ wsL_law := lwc_18 _ (List.mem_of_getElem? (i := 6) rfl)
theorem q415 : Cond.code yX8_baths cX8_baths 4 (some .int) ∈ wsL_law := lwc_18 _ (List.mem_of_getElem? (i := 7) rfl)
theorem q416 : Cond.methodLink RL 57 yX7_lead ∈ wsL_law := lwc_18 _ (List.mem_of_getElem? (i := 8) rfl)
theorem q417 : Cond.instanceMethod yX7_lead ∈ wsL_law := lwc_18 _ (List.mem_of_getElem? (i := 9) rfl)
theorem q418 : Cond.selects RX7 yX7_lead yX7_lead ∈ wsL_law := lwc_18 _ (List.mem_of_getElem? (i := 10) rfl)
theorem q419 : Cond.code yX7_lead cX7_lead 6 (some .int) ∈ wsL_law := lwc_18 _ (List.mem_of_getElem? (i := 11) rfl)
theorem q420 : Cond.constantLong RX7 166 (50000) ∈ wsL_law := lwc_18 _ (List.mem_of_getElem? (i := 12) rfl)
theorem q421 : Cond.methodLink RX7 163 yX3_hasWire ∈ wsL_law := lwc_18 _ (List.mem_of_getElem? (i := 13) rfl)
theorem q422 : Cond.instanceMethod yX3_hasWire ∈ wsL_law := lwc_18 _ (List.mem_of_getElem? (i := 14) rfl)
theorem q423 : Cond.selects RX3 yX3_hasWire yX3_hasWire ∈ wsL_law := lwc_18 _ (List.mem_of_getElem? (i := 15) rfl)
theorem q424 : Cond.code yX3_hasWire cX3_hasWire 2 (some .boolean) ∈ wsL_law := lwc_18 _ (List.mem_of_getElem? (i := 16) rfl)
theorem q425 : Cond.methodLink RX7 168 yX3_leadOf ∈ wsL_law := lwc_18 _ (List.mem_of_getElem? (i := 17) rfl)
theorem q426 : Cond.instanceMethod yX3_leadOf ∈ wsL_law := lwc_18 _ (List.mem_of_getElem? (i := 18) rfl)
theorem q427 : Cond.selects RX3 yX3_leadOf yX3_leadOf ∈ wsL_law := lwc_18 _ (List.mem_of_getElem? (i := 19) rfl)
theorem q428 : Cond.code yX3_leadOf cX3_leadOf 2 (some .int) ∈ wsL_law := lwc_18 _ (List.mem_of_getElem? (i := 20) rfl)
theorem q429 : Cond.methodLink RX7 171 yX3_setLead ∈ wsL_law := lwc_18 _ (List.mem_of_getElem? (i := 21) rfl)
theorem q430 : Cond.instanceMethod yX3_setLead ∈ wsL_law := lwc_18 _ (List.mem_of_getElem? (i := 22) rfl)
theorem q431 : Cond.selects RX3 yX3_setLead yX3_setLead ∈ wsL_law := lwc_18 _ (List.mem_of_getElem? (i := 23) rfl)
theorem lwc_19 : ∀ w ∈ wsL_law_r19, w ∈ wsL_law := fun _ h => List.mem_append_left _ (List.mem_append_left _ (List.mem_append_left _ (List.mem_append_left _ (List.mem_append_left _ (List.mem_append_left _ (List.mem_append_left _ (List.mem_append_left _ (List.mem_append_left _ (List.mem_append_left _ (List.mem_append_right _ (List.mem_append_right _ (List.mem_append_right _ (List.mem_append_right _ (List.mem_append_right _ (List.mem_append_right _ (List.mem_append_right _ (List.mem_append_right _ (List.mem_append_right _ (List.mem_append_right _ (List.mem_append_right _ (List.mem_append_right _ (List.mem_append_right _ (List.mem_append_right _ (List.mem_append_right _ (List.mem_append_right _ (List.mem_append_right _ (List.mem_append_right _ (List.mem_append_left _ h))))))))))))))))))))))))))))
theorem q432 : Cond.code yX3_setLead cX3_setLead 3 none ∈ wsL_law := lwc_19 _ (List.mem_of_getElem? (i := 0) rfl)
theorem q433 : Cond.methodLink RL 60 yX8_lead ∈ wsL_law := lwc_19 _ (List.mem_of_getElem? (i := 1) rfl)
theorem q434 : Cond.instanceMethod yX8_lead ∈ wsL_law := lwc_19 _ (List.mem_of_getElem? (i := 2) rfl)
theorem q435 : Cond.selects RX8 yX8_lead yX8_lead ∈ wsL_law := lwc_19 _ (List.mem_of_getElem? (i := 3) rfl)
theorem q436 : Cond.code yX8_lead cX8_lead 5 (some .int) ∈ wsL_law := lwc_19 _ (List.mem_of_getElem? (i := 4) rfl)
theorem q437 : Cond.constant RX8 109 (50000) ∈ wsL_law := lwc_19 _ (List.mem_of_getElem? (i := 5) rfl)
theorem q438 : Cond.methodLink RX8 106 yX8_isWire ∈ wsL_law := lwc_19 _ (List.mem_of_getElem? (i := 6) rfl)
theorem q439 : Cond.instanceMethod yX8_isWire ∈ wsL_law := lwc_19 _ (List.mem_of_getElem? (i := 7) rfl)
theorem q440 : Cond.selects RX8 yX8_isWire yX8_isWire ∈ wsL_law := lwc_19 _ (List.mem_of_getElem? (i := 8) rfl)
theorem q441 : Cond.code yX8_isWire cX8_isWire 3 (some .boolean) ∈ wsL_law := lwc_19 _ (List.mem_of_getElem? (i := 9) rfl)
theorem q442 : Cond.methodLink RL 61 yX7_strain ∈ wsL_law := lwc_19 _ (List.mem_of_getElem? (i := 10) rfl)
theorem q443 : Cond.instanceMethod yX7_strain ∈ wsL_law := lwc_19 _ (List.mem_of_getElem? (i := 11) rfl)
theorem q444 : Cond.selects RX7 yX7_strain yX7_strain ∈ wsL_law := lwc_19 _ (List.mem_of_getElem? (i := 12) rfl)
theorem q445 : Cond.code yX7_strain cX7_strain 6 (some .int) ∈ wsL_law := lwc_19 _ (List.mem_of_getElem? (i := 13) rfl)
theorem q446 : Cond.fieldLink RX7 174 "OhmBridge" "LEAST_STRAIN" "[I" ∈ wsL_law := lwc_19 _ (List.mem_of_getElem? (i := 14) rfl)
theorem q447 : Cond.fieldLink RX7 177 "OhmBridge" "GREATEST_STRAIN" "[I" ∈ wsL_law := lwc_19 _ (List.mem_of_getElem? (i := 15) rfl)
theorem q448 : Cond.methodLink RX7 180 yX7_isInRow ∈ wsL_law := lwc_19 _ (List.mem_of_getElem? (i := 16) rfl)
theorem q449 : Cond.static yX7_isInRow ∈ wsL_law := lwc_19 _ (List.mem_of_getElem? (i := 17) rfl)
theorem q450 : Cond.code yX7_isInRow cX7_isInRow 4 (some .boolean) ∈ wsL_law := lwc_19 _ (List.mem_of_getElem? (i := 18) rfl)
theorem q451 : Cond.methodLink RX7 184 yX3_strainOf ∈ wsL_law := lwc_19 _ (List.mem_of_getElem? (i := 19) rfl)
theorem q452 : Cond.instanceMethod yX3_strainOf ∈ wsL_law := lwc_19 _ (List.mem_of_getElem? (i := 20) rfl)
theorem q453 : Cond.selects RX3 yX3_strainOf yX3_strainOf ∈ wsL_law := lwc_19 _ (List.mem_of_getElem? (i := 21) rfl)
theorem q454 : Cond.code yX3_strainOf cX3_strainOf 2 (some .int) ∈ wsL_law := lwc_19 _ (List.mem_of_getElem? (i := 22) rfl)
theorem q455 : Cond.methodLink RX7 187 yX3_setStrain ∈ wsL_law := lwc_19 _ (List.mem_of_getElem? (i := 23) rfl)
theorem lwc_20 : ∀ w ∈ wsL_law_r20, w ∈ wsL_law := fun _ h => List.mem_append_left _ (List.mem_append_left _ (List.mem_append_left _ (List.mem_append_left _ (List.mem_append_left _ (List.mem_append_left _ (List.mem_append_left _ (List.mem_append_left _ (List.mem_append_left _ (List.mem_append_left _ (List.mem_append_right _ (List.mem_append_right _ (List.mem_append_right _ (List.mem_append_right _ (List.mem_append_right _ (List.mem_append_right _ (List.mem_append_right _ (List.mem_append_right _ (List.mem_append_right _ (List.mem_append_right _ (List.mem_append_right _ (List.mem_append_right _ (List.mem_append_right _ (List.mem_append_right _ (List.mem_append_right _ (List.mem_append_right _ (List.mem_append_right _ (List.mem_append_right _ (List.mem_append_right _ (List.mem_append_left _ h)))))))))))))))))))))))))))))
theorem q456 : Cond.instanceMethod yX3_setStrain ∈ wsL_law := lwc_20 _ (List.mem_of_getElem? (i := 0) rfl)
theorem q457 : Cond.selects RX3 yX3_setStrain yX3_setStrain ∈ wsL_law := lwc_20 _ (List.mem_of_getElem? (i := 1) rfl)
theorem q458 : Cond.code yX3_setStrain cX3_setStrain 3 none ∈ wsL_law := lwc_20 _ (List.mem_of_getElem? (i := 2) rfl)
theorem q459 : Cond.methodLink RL 64 yX8_strain ∈ wsL_law := lwc_20 _ (List.mem_of_getElem? (i := 3) rfl)
theorem q460 : Cond.instanceMethod yX8_strain ∈ wsL_law := lwc_20 _ (List.mem_of_getElem? (i := 4) rfl)
theorem q461 : Cond.selects RX8 yX8_strain yX8_strain ∈ wsL_law := lwc_20 _ (List.mem_of_getElem? (i := 5) rfl)
theorem q462 : Cond.code yX8_strain cX8_strain 5 (some .int) ∈ wsL_law := lwc_20 _ (List.mem_of_getElem? (i := 6) rfl)
theorem q463 : Cond.constant RX8 110 (-100000) ∈ wsL_law := lwc_20 _ (List.mem_of_getElem? (i := 7) rfl)
theorem q464 : Cond.methodLink RL 65 yX7_cut ∈ wsL_law := lwc_20 _ (List.mem_of_getElem? (i := 8) rfl)
theorem q465 : Cond.instanceMethod yX7_cut ∈ wsL_law := lwc_20 _ (List.mem_of_getElem? (i := 9) rfl)
theorem q466 : Cond.selects RX7 yX7_cut yX7_cut ∈ wsL_law := lwc_20 _ (List.mem_of_getElem? (i := 10) rfl)
theorem q467 : Cond.code yX7_cut cX7_cut 5 (some .int) ∈ wsL_law := lwc_20 _ (List.mem_of_getElem? (i := 11) rfl)
theorem q468 : Cond.fieldLink RX7 197 "OhmBridge$Sensor" "brokenWires" "I" ∈ wsL_law := lwc_20 _ (List.mem_of_getElem? (i := 12) rfl)
theorem q469 : Cond.methodLink RX7 190 yX3_isBroken ∈ wsL_law := lwc_20 _ (List.mem_of_getElem? (i := 13) rfl)
theorem q470 : Cond.instanceMethod yX3_isBroken ∈ wsL_law := lwc_20 _ (List.mem_of_getElem? (i := 14) rfl)
theorem q471 : Cond.selects RX3 yX3_isBroken yX3_isBroken ∈ wsL_law := lwc_20 _ (List.mem_of_getElem? (i := 15) rfl)
theorem q472 : Cond.code yX3_isBroken cX3_isBroken 2 (some .boolean) ∈ wsL_law := lwc_20 _ (List.mem_of_getElem? (i := 16) rfl)
theorem q473 : Cond.methodLink RX7 193 yX3_turnWire ∈ wsL_law := lwc_20 _ (List.mem_of_getElem? (i := 17) rfl)
theorem q474 : Cond.instanceMethod yX3_turnWire ∈ wsL_law := lwc_20 _ (List.mem_of_getElem? (i := 18) rfl)
theorem q475 : Cond.selects RX3 yX3_turnWire yX3_turnWire ∈ wsL_law := lwc_20 _ (List.mem_of_getElem? (i := 19) rfl)
theorem q476 : Cond.code yX3_turnWire cX3_turnWire 2 none ∈ wsL_law := lwc_20 _ (List.mem_of_getElem? (i := 20) rfl)
theorem q477 : Cond.methodLink RX7 200 yJ6_bitCount_0f7a4 ∈ wsL_law := lwc_20 _ (List.mem_of_getElem? (i := 21) rfl)
theorem q478 : Cond.static yJ6_bitCount_0f7a4 ∈ wsL_law := lwc_20 _ (List.mem_of_getElem? (i := 22) rfl)
theorem q479 : Cond.initialized RJ6 ∈ wsL_law := lwc_20 _ (List.mem_of_getElem? (i := 23) rfl)
theorem lwc_21 : ∀ w ∈ wsL_law_r21, w ∈ wsL_law := fun _ h => List.mem_append_left _ (List.mem_append_left _ (List.mem_append_left _ (List.mem_append_left _ (List.mem_append_left _ (List.mem_append_left _ (List.mem_append_left _ (List.mem_append_left _ (List.mem_append_left _ (List.mem_append_left _ (List.mem_append_right _ (List.mem_append_right _ (List.mem_append_right _ (List.mem_append_right _ (List.mem_append_right _ (List.mem_append_right _ (List.mem_append_right _ (List.mem_append_right _ (List.mem_append_right _ (List.mem_append_right _ (List.mem_append_right _ (List.mem_append_right _ (List.mem_append_right _ (List.mem_append_right _ (List.mem_append_right _ (List.mem_append_right _ (List.mem_append_right _ (List.mem_append_right _ (List.mem_append_right _ (List.mem_append_right _ (List.mem_append_left _ h))))))))))))))))))))))))))))))
theorem q480 : Cond.code yJ6_bitCount_0f7a4 cJ6_bitCount_0f7a4 1 (some .int) ∈ wsL_law := lwc_21 _ (List.mem_of_getElem? (i := 0) rfl)
theorem q481 : Cond.constant RJ6 265 (1431655765) ∈ wsL_law := lwc_21 _ (List.mem_of_getElem? (i := 1) rfl)
theorem q482 : Cond.constant RJ6 266 (858993459) ∈ wsL_law := lwc_21 _ (List.mem_of_getElem? (i := 2) rfl)
theorem q483 : Cond.constant RJ6 267 (252645135) ∈ wsL_law := lwc_21 _ (List.mem_of_getElem? (i := 3) rfl)
theorem q484 : Cond.methodLink RL 68 yX8_cut ∈ wsL_law := lwc_21 _ (List.mem_of_getElem? (i := 4) rfl)
theorem q485 : Cond.instanceMethod yX8_cut ∈ wsL_law := lwc_21 _ (List.mem_of_getElem? (i := 5) rfl)
theorem q486 : Cond.selects RX8 yX8_cut yX8_cut ∈ wsL_law := lwc_21 _ (List.mem_of_getElem? (i := 6) rfl)
theorem q487 : Cond.code yX8_cut cX8_cut 4 (some .int) ∈ wsL_law := lwc_21 _ (List.mem_of_getElem? (i := 7) rfl)
theorem q488 : Cond.methodLink RX8 114 yX8_cuts ∈ wsL_law := lwc_21 _ (List.mem_of_getElem? (i := 8) rfl)
theorem q489 : Cond.instanceMethod yX8_cuts ∈ wsL_law := lwc_21 _ (List.mem_of_getElem? (i := 9) rfl)
theorem q490 : Cond.selects RX8 yX8_cuts yX8_cuts ∈ wsL_law := lwc_21 _ (List.mem_of_getElem? (i := 10) rfl)
theorem q491 : Cond.code yX8_cuts cX8_cuts 4 (some .int) ∈ wsL_law := lwc_21 _ (List.mem_of_getElem? (i := 11) rfl)
theorem q492 : Cond.methodLink RX8 111 yX8_bits ∈ wsL_law := lwc_21 _ (List.mem_of_getElem? (i := 12) rfl)
theorem q493 : Cond.static yX8_bits ∈ wsL_law := lwc_21 _ (List.mem_of_getElem? (i := 13) rfl)
theorem q494 : Cond.code yX8_bits cX8_bits 1 (some .int) ∈ wsL_law := lwc_21 _ (List.mem_of_getElem? (i := 14) rfl)
theorem q495 : Cond.methodLink RL 69 yX7_drift ∈ wsL_law := lwc_21 _ (List.mem_of_getElem? (i := 15) rfl)
theorem q496 : Cond.instanceMethod yX7_drift ∈ wsL_law := lwc_21 _ (List.mem_of_getElem? (i := 16) rfl)
theorem q497 : Cond.selects RX7 yX7_drift yX7_drift ∈ wsL_law := lwc_21 _ (List.mem_of_getElem? (i := 17) rfl)
theorem q498 : Cond.code yX7_drift cX7_drift 6 (some .int) ∈ wsL_law := lwc_21 _ (List.mem_of_getElem? (i := 18) rfl)
theorem q499 : Cond.constantLong RX7 205 (-100000) ∈ wsL_law := lwc_21 _ (List.mem_of_getElem? (i := 19) rfl)
theorem q500 : Cond.constantLong RX7 207 (100000) ∈ wsL_law := lwc_21 _ (List.mem_of_getElem? (i := 20) rfl)
theorem q501 : Cond.fieldLink RX7 209 "OhmBridge$Sensor" "trueBase" "I" ∈ wsL_law := lwc_21 _ (List.mem_of_getElem? (i := 21) rfl)
theorem q502 : Cond.constantLong RX7 212 (1000000) ∈ wsL_law := lwc_21 _ (List.mem_of_getElem? (i := 22) rfl)
theorem q503 : Cond.methodLink RL 72 yX8_drift ∈ wsL_law := lwc_21 _ (List.mem_of_getElem? (i := 23) rfl)
theorem lwc_22 : ∀ w ∈ wsL_law_r22, w ∈ wsL_law := fun _ h => List.mem_append_left _ (List.mem_append_left _ (List.mem_append_left _ (List.mem_append_left _ (List.mem_append_left _ (List.mem_append_left _ (List.mem_append_left _ (List.mem_append_left _ (List.mem_append_left _ (List.mem_append_left _ (List.mem_append_right _ (List.mem_append_right _ (List.mem_append_right _ (List.mem_append_right _ (List.mem_append_right _ (List.mem_append_right _ (List.mem_append_right _ (List.mem_append_right _ (List.mem_append_right _ (List.mem_append_right _ (List.mem_append_right _ (List.mem_append_right _ (List.mem_append_right _ (List.mem_append_right _ (List.mem_append_right _ (List.mem_append_right _ (List.mem_append_right _ (List.mem_append_right _ (List.mem_append_right _ (List.mem_append_right _ (List.mem_append_right _ (List.mem_append_left _ h)))))))))))))))))))))))))))))))
theorem q504 : Cond.instanceMethod yX8_drift ∈ wsL_law := lwc_22 _ (List.mem_of_getElem? (i := 0) rfl)
theorem q505 : Cond.selects RX8 yX8_drift yX8_drift ∈ wsL_law := lwc_22 _ (List.mem_of_getElem? (i := 1) rfl)
theorem q506 : Cond.code yX8_drift cX8_drift 5 (some .int) ∈ wsL_law := lwc_22 _ (List.mem_of_getElem? (i := 2) rfl)
theorem q507 : Cond.constantLong RX8 122 (1000000) ∈ wsL_law := lwc_22 _ (List.mem_of_getElem? (i := 3) rfl)
theorem q508 : Cond.methodLink RX8 124 yX8_isBase ∈ wsL_law := lwc_22 _ (List.mem_of_getElem? (i := 4) rfl)
theorem q509 : Cond.static yX8_isBase ∈ wsL_law := lwc_22 _ (List.mem_of_getElem? (i := 5) rfl)
theorem q510 : Cond.code yX8_isBase cX8_isBase 2 (some .boolean) ∈ wsL_law := lwc_22 _ (List.mem_of_getElem? (i := 6) rfl)
theorem q511 : Cond.constantLong RX8 118 (1000) ∈ wsL_law := lwc_22 _ (List.mem_of_getElem? (i := 7) rfl)
theorem q512 : Cond.constantLong RX8 120 (2000000) ∈ wsL_law := lwc_22 _ (List.mem_of_getElem? (i := 8) rfl)
theorem q513 : Cond.methodLink RL 73 yX7_calibrate ∈ wsL_law := lwc_22 _ (List.mem_of_getElem? (i := 9) rfl)
theorem q514 : Cond.instanceMethod yX7_calibrate ∈ wsL_law := lwc_22 _ (List.mem_of_getElem? (i := 10) rfl)
theorem q515 : Cond.selects RX7 yX7_calibrate yX7_calibrate ∈ wsL_law := lwc_22 _ (List.mem_of_getElem? (i := 11) rfl)
theorem q516 : Cond.code yX7_calibrate cX7_calibrate 7 (some .int) ∈ wsL_law := lwc_22 _ (List.mem_of_getElem? (i := 12) rfl)
theorem q517 : Cond.fieldLink RX7 218 "OhmBridge$Meter" "diagnosed" "I" ∈ wsL_law := lwc_22 _ (List.mem_of_getElem? (i := 13) rfl)
theorem q518 : Cond.fieldLink RX7 221 "OhmBridge$Meter" "withoutPower" "J" ∈ wsL_law := lwc_22 _ (List.mem_of_getElem? (i := 14) rfl)
theorem q519 : Cond.fieldLink RX7 229 "OhmBridge$Sensor" "assumedBase" "I" ∈ wsL_law := lwc_22 _ (List.mem_of_getElem? (i := 15) rfl)
theorem q520 : Cond.methodLink RX7 214 yX2_measure ∈ wsL_law := lwc_22 _ (List.mem_of_getElem? (i := 16) rfl)
theorem q521 : Cond.instanceMethod yX2_measure ∈ wsL_law := lwc_22 _ (List.mem_of_getElem? (i := 17) rfl)
theorem q522 : Cond.selects RX2 yX2_measure yX2_measure ∈ wsL_law := lwc_22 _ (List.mem_of_getElem? (i := 18) rfl)
theorem q523 : Cond.code yX2_measure cX2_measure 7 none ∈ wsL_law := lwc_22 _ (List.mem_of_getElem? (i := 19) rfl)
theorem q524 : Cond.fieldLink RX2 35 "OhmBridge$Meter" "withoutPower" "J" ∈ wsL_law := lwc_22 _ (List.mem_of_getElem? (i := 20) rfl)
theorem q525 : Cond.fieldLink RX2 39 "OhmBridge$Sensor" "table" "I" ∈ wsL_law := lwc_22 _ (List.mem_of_getElem? (i := 21) rfl)
theorem q526 : Cond.fieldLink RX2 49 "OhmBridge$Sensor" "assumedBase" "I" ∈ wsL_law := lwc_22 _ (List.mem_of_getElem? (i := 22) rfl)
theorem q527 : Cond.fieldLink RX2 56 "OhmBridge$Meter" "reading" "I" ∈ wsL_law := lwc_22 _ (List.mem_of_getElem? (i := 23) rfl)
theorem lwc_23 : ∀ w ∈ wsL_law_r23, w ∈ wsL_law := fun _ h => List.mem_append_left _ (List.mem_append_left _ (List.mem_append_left _ (List.mem_append_left _ (List.mem_append_left _ (List.mem_append_left _ (List.mem_append_left _ (List.mem_append_left _ (List.mem_append_left _ (List.mem_append_left _ (List.mem_append_right _ (List.mem_append_right _ (List.mem_append_right _ (List.mem_append_right _ (List.mem_append_right _ (List.mem_append_right _ (List.mem_append_right _ (List.mem_append_right _ (List.mem_append_right _ (List.mem_append_right _ (List.mem_append_right _ (List.mem_append_right _ (List.mem_append_right _ (List.mem_append_right _ (List.mem_append_right _ (List.mem_append_right _ (List.mem_append_right _ (List.mem_append_right _ (List.mem_append_right _ (List.mem_append_right _ (List.mem_append_right _ (List.mem_append_right _ (List.mem_append_left _ h))))))))))))))))))))))))))))))))
theorem q528 : Cond.fieldLink RX2 63 "OhmBridge$Meter" "diagnosed" "I" ∈ wsL_law := lwc_23 _ (List.mem_of_getElem? (i := 0) rfl)
theorem q529 : Cond.methodLink RX2 21 yX4_setting ∈ wsL_law := lwc_23 _ (List.mem_of_getElem? (i := 1) rfl)
theorem q530 : Cond.instanceMethod yX4_setting ∈ wsL_law := lwc_23 _ (List.mem_of_getElem? (i := 2) rfl)
theorem q531 : Cond.selects RX4 yX4_setting yX4_setting ∈ wsL_law := lwc_23 _ (List.mem_of_getElem? (i := 3) rfl)
theorem q532 : Cond.code yX4_setting cX4_setting 2 (some .int) ∈ wsL_law := lwc_23 _ (List.mem_of_getElem? (i := 4) rfl)
theorem q533 : Cond.methodLink RX2 27 yX1_take ∈ wsL_law := lwc_23 _ (List.mem_of_getElem? (i := 5) rfl)
theorem q534 : Cond.instanceMethod yX1_take ∈ wsL_law := lwc_23 _ (List.mem_of_getElem? (i := 6) rfl)
theorem q535 : Cond.selects RX1 yX1_take yX1_take ∈ wsL_law := lwc_23 _ (List.mem_of_getElem? (i := 7) rfl)
theorem q536 : Cond.code yX1_take cX1_take 10 none ∈ wsL_law := lwc_23 _ (List.mem_of_getElem? (i := 8) rfl)
theorem q537 : Cond.fieldLink RX1 9 "OhmBridge$Measurement" "current" "J" ∈ wsL_law := lwc_23 _ (List.mem_of_getElem? (i := 9) rfl)
theorem q538 : Cond.fieldLink RX1 21 "OhmBridge$Measurement" "reference" "J" ∈ wsL_law := lwc_23 _ (List.mem_of_getElem? (i := 10) rfl)
theorem q539 : Cond.fieldLink RX1 24 "OhmBridge$Measurement" "unit" "J" ∈ wsL_law := lwc_23 _ (List.mem_of_getElem? (i := 11) rfl)
theorem q540 : Cond.fieldLink RX1 32 "OhmBridge$Measurement" "stray" "J" ∈ wsL_law := lwc_23 _ (List.mem_of_getElem? (i := 12) rfl)
theorem q541 : Cond.fieldLink RX1 35 "OhmBridge$Sensor" "table" "I" ∈ wsL_law := lwc_23 _ (List.mem_of_getElem? (i := 13) rfl)
theorem q542 : Cond.fieldLink RX1 47 "OhmBridge$Measurement" "heated" "J" ∈ wsL_law := lwc_23 _ (List.mem_of_getElem? (i := 14) rfl)
theorem q543 : Cond.fieldLink RX1 50 "OhmBridge$Sensor" "wires" "I" ∈ wsL_law := lwc_23 _ (List.mem_of_getElem? (i := 15) rfl)
theorem q544 : Cond.fieldLink RX1 60 "OhmBridge$Measurement" "oneWay" "J" ∈ wsL_law := lwc_23 _ (List.mem_of_getElem? (i := 16) rfl)
theorem q545 : Cond.fieldLink RX1 63 "OhmBridge$Measurement" "otherWay" "J" ∈ wsL_law := lwc_23 _ (List.mem_of_getElem? (i := 17) rfl)
theorem q546 : Cond.fieldLink RX1 66 "OhmBridge$Measurement" "secondOneWay" "J" ∈ wsL_law := lwc_23 _ (List.mem_of_getElem? (i := 18) rfl)
theorem q547 : Cond.fieldLink RX1 69 "OhmBridge$Measurement" "secondOtherWay" "J" ∈ wsL_law := lwc_23 _ (List.mem_of_getElem? (i := 19) rfl)
theorem q548 : Cond.constantLong RX1 72 (2) ∈ wsL_law := lwc_23 _ (List.mem_of_getElem? (i := 20) rfl)
theorem q549 : Cond.fieldLink RX1 77 "OhmBridge$Measurement" "loopOhms" "J" ∈ wsL_law := lwc_23 _ (List.mem_of_getElem? (i := 21) rfl)
theorem q550 : Cond.fieldLink RX1 80 "OhmBridge$Measurement" "compensated" "J" ∈ wsL_law := lwc_23 _ (List.mem_of_getElem? (i := 22) rfl)
theorem q551 : Cond.methodLink RX1 15 yX4_setting ∈ wsL_law := lwc_23 _ (List.mem_of_getElem? (i := 23) rfl)
theorem lwc_24 : ∀ w ∈ wsL_law_r24, w ∈ wsL_law := fun _ h => List.mem_append_left _ (List.mem_append_left _ (List.mem_append_left _ (List.mem_append_left _ (List.mem_append_left _ (List.mem_append_left _ (List.mem_append_left _ (List.mem_append_left _ (List.mem_append_left _ (List.mem_append_left _ (List.mem_append_right _ (List.mem_append_right _ (List.mem_append_right _ (List.mem_append_right _ (List.mem_append_right _ (List.mem_append_right _ (List.mem_append_right _ (List.mem_append_right _ (List.mem_append_right _ (List.mem_append_right _ (List.mem_append_right _ (List.mem_append_right _ (List.mem_append_right _ (List.mem_append_right _ (List.mem_append_right _ (List.mem_append_right _ (List.mem_append_right _ (List.mem_append_right _ (List.mem_append_right _ (List.mem_append_right _ (List.mem_append_right _ (List.mem_append_right _ (List.mem_append_right _ (List.mem_append_left _ h)))))))))))))))))))))))))))))))))
theorem q552 : Cond.methodLink RX1 27 yX3_strainOf ∈ wsL_law := lwc_24 _ (List.mem_of_getElem? (i := 0) rfl)
theorem q553 : Cond.methodLink RX1 39 yX4_tableAt ∈ wsL_law := lwc_24 _ (List.mem_of_getElem? (i := 1) rfl)
theorem q554 : Cond.methodLink RX1 43 yX1_heatedOhms ∈ wsL_law := lwc_24 _ (List.mem_of_getElem? (i := 2) rfl)
theorem q555 : Cond.instanceMethod yX1_heatedOhms ∈ wsL_law := lwc_24 _ (List.mem_of_getElem? (i := 3) rfl)
theorem q556 : Cond.selects RX1 yX1_heatedOhms yX1_heatedOhms ∈ wsL_law := lwc_24 _ (List.mem_of_getElem? (i := 4) rfl)
theorem q557 : Cond.code yX1_heatedOhms cX1_heatedOhms 9 (some .long) ∈ wsL_law := lwc_24 _ (List.mem_of_getElem? (i := 5) rfl)
theorem q558 : Cond.fieldLink RX1 87 "OhmBridge$Sensor" "trueBase" "I" ∈ wsL_law := lwc_24 _ (List.mem_of_getElem? (i := 6) rfl)
theorem q559 : Cond.fieldLink RX1 90 "OhmBridge$Sensor" "temperature" "I" ∈ wsL_law := lwc_24 _ (List.mem_of_getElem? (i := 7) rfl)
theorem q560 : Cond.constantLong RX1 98 (1000000) ∈ wsL_law := lwc_24 _ (List.mem_of_getElem? (i := 8) rfl)
theorem q561 : Cond.fieldLink RX1 100 "OhmBridge$Table" "nodes" "I" ∈ wsL_law := lwc_24 _ (List.mem_of_getElem? (i := 9) rfl)
theorem q562 : Cond.methodLink RX1 106 Lib.MathLoose.min_long.x ∈ wsL_law := lwc_24 _ (List.mem_of_getElem? (i := 10) rfl)
theorem q563 : Cond.static Lib.MathLoose.min_long.x ∈ wsL_law := lwc_24 _ (List.mem_of_getElem? (i := 11) rfl)
theorem q564 : Cond.code Lib.MathLoose.min_long.x Lib.MathLoose.min_long.code 4 (some .long) ∈ wsL_law := lwc_24 _ (List.mem_of_getElem? (i := 12) rfl)
theorem q565 : Cond.methodLink RX1 93 yX5_ratioAt ∈ wsL_law := lwc_24 _ (List.mem_of_getElem? (i := 13) rfl)
theorem q566 : Cond.methodLink RX1 103 yX5_temperatureOf ∈ wsL_law := lwc_24 _ (List.mem_of_getElem? (i := 14) rfl)
theorem q567 : Cond.methodLink RX1 53 yX3_leadOf ∈ wsL_law := lwc_24 _ (List.mem_of_getElem? (i := 15) rfl)
theorem q568 : Cond.methodLink RX1 56 yX1_countsOf ∈ wsL_law := lwc_24 _ (List.mem_of_getElem? (i := 16) rfl)
theorem q569 : Cond.instanceMethod yX1_countsOf ∈ wsL_law := lwc_24 _ (List.mem_of_getElem? (i := 17) rfl)
theorem q570 : Cond.selects RX1 yX1_countsOf yX1_countsOf ∈ wsL_law := lwc_24 _ (List.mem_of_getElem? (i := 18) rfl)
theorem q571 : Cond.code yX1_countsOf cX1_countsOf 7 (some .long) ∈ wsL_law := lwc_24 _ (List.mem_of_getElem? (i := 19) rfl)
theorem q572 : Cond.methodLink RX1 118 Lib.MathLoose.max_long.x ∈ wsL_law := lwc_24 _ (List.mem_of_getElem? (i := 20) rfl)
theorem q573 : Cond.static Lib.MathLoose.max_long.x ∈ wsL_law := lwc_24 _ (List.mem_of_getElem? (i := 21) rfl)
theorem q574 : Cond.code Lib.MathLoose.max_long.x Lib.MathLoose.max_long.code 4 (some .long) ∈ wsL_law := lwc_24 _ (List.mem_of_getElem? (i := 22) rfl)
theorem q575 : Cond.methodLink RX1 114 yX1_greatest ∈ wsL_law := lwc_24 _ (List.mem_of_getElem? (i := 23) rfl)
theorem lwc_25 : ∀ w ∈ wsL_law_r25, w ∈ wsL_law := fun _ h => List.mem_append_left _ (List.mem_append_left _ (List.mem_append_left _ (List.mem_append_left _ (List.mem_append_left _ (List.mem_append_left _ (List.mem_append_left _ (List.mem_append_left _ (List.mem_append_left _ (List.mem_append_left _ (List.mem_append_right _ (List.mem_append_right _ (List.mem_append_right _ (List.mem_append_right _ (List.mem_append_right _ (List.mem_append_right _ (List.mem_append_right _ (List.mem_append_right _ (List.mem_append_right _ (List.mem_append_right _ (List.mem_append_right _ (List.mem_append_right _ (List.mem_append_right _ (List.mem_append_right _ (List.mem_append_right _ (List.mem_append_right _ (List.mem_append_right _ (List.mem_append_right _ (List.mem_append_right _ (List.mem_append_right _ (List.mem_append_right _ (List.mem_append_right _ (List.mem_append_right _ (List.mem_append_right _ (List.mem_append_left _ h))))))))))))))))))))))))))))))))))
theorem q576 : Cond.instanceMethod yX1_greatest ∈ wsL_law := lwc_25 _ (List.mem_of_getElem? (i := 0) rfl)
theorem q577 : Cond.selects RX1 yX1_greatest yX1_greatest ∈ wsL_law := lwc_25 _ (List.mem_of_getElem? (i := 1) rfl)
theorem q578 : Cond.code yX1_greatest cX1_greatest 1 (some .long) ∈ wsL_law := lwc_25 _ (List.mem_of_getElem? (i := 2) rfl)
theorem q579 : Cond.constantLong RX1 112 (4) ∈ wsL_law := lwc_25 _ (List.mem_of_getElem? (i := 3) rfl)
theorem q580 : Cond.methodLink RX1 74 yX1_ohmsBy ∈ wsL_law := lwc_25 _ (List.mem_of_getElem? (i := 4) rfl)
theorem q581 : Cond.instanceMethod yX1_ohmsBy ∈ wsL_law := lwc_25 _ (List.mem_of_getElem? (i := 5) rfl)
theorem q582 : Cond.selects RX1 yX1_ohmsBy yX1_ohmsBy ∈ wsL_law := lwc_25 _ (List.mem_of_getElem? (i := 6) rfl)
theorem q583 : Cond.code yX1_ohmsBy cX1_ohmsBy 3 (some .long) ∈ wsL_law := lwc_25 _ (List.mem_of_getElem? (i := 7) rfl)
theorem q584 : Cond.methodLink RX1 83 yX3_isCompensated ∈ wsL_law := lwc_25 _ (List.mem_of_getElem? (i := 8) rfl)
theorem q585 : Cond.instanceMethod yX3_isCompensated ∈ wsL_law := lwc_25 _ (List.mem_of_getElem? (i := 9) rfl)
theorem q586 : Cond.selects RX3 yX3_isCompensated yX3_isCompensated ∈ wsL_law := lwc_25 _ (List.mem_of_getElem? (i := 10) rfl)
theorem q587 : Cond.code yX3_isCompensated cX3_isCompensated 1 (some .boolean) ∈ wsL_law := lwc_25 _ (List.mem_of_getElem? (i := 11) rfl)
theorem q588 : Cond.methodLink RX2 31 yX2_extrapolated ∈ wsL_law := lwc_25 _ (List.mem_of_getElem? (i := 12) rfl)
theorem q589 : Cond.instanceMethod yX2_extrapolated ∈ wsL_law := lwc_25 _ (List.mem_of_getElem? (i := 13) rfl)
theorem q590 : Cond.selects RX2 yX2_extrapolated yX2_extrapolated ∈ wsL_law := lwc_25 _ (List.mem_of_getElem? (i := 14) rfl)
theorem q591 : Cond.code yX2_extrapolated cX2_extrapolated 13 (some .long) ∈ wsL_law := lwc_25 _ (List.mem_of_getElem? (i := 15) rfl)
theorem q592 : Cond.fieldLink RX2 66 "OhmBridge$Measurement" "compensated" "J" ∈ wsL_law := lwc_25 _ (List.mem_of_getElem? (i := 16) rfl)
theorem q593 : Cond.constantLong RX2 69 (-2000000000) ∈ wsL_law := lwc_25 _ (List.mem_of_getElem? (i := 17) rfl)
theorem q594 : Cond.constantLong RX2 71 (2000000000) ∈ wsL_law := lwc_25 _ (List.mem_of_getElem? (i := 18) rfl)
theorem q595 : Cond.methodLink RX2 73 Lib.MathLoose.min_long.x ∈ wsL_law := lwc_25 _ (List.mem_of_getElem? (i := 19) rfl)
theorem q596 : Cond.methodLink RX2 78 Lib.MathLoose.max_long.x ∈ wsL_law := lwc_25 _ (List.mem_of_getElem? (i := 20) rfl)
theorem q597 : Cond.methodLink RX2 45 yX4_tableAt ∈ wsL_law := lwc_25 _ (List.mem_of_getElem? (i := 21) rfl)
theorem q598 : Cond.methodLink RX2 52 yX2_readingOf ∈ wsL_law := lwc_25 _ (List.mem_of_getElem? (i := 22) rfl)
theorem q599 : Cond.instanceMethod yX2_readingOf ∈ wsL_law := lwc_25 _ (List.mem_of_getElem? (i := 23) rfl)
theorem lwc_26 : ∀ w ∈ wsL_law_r26, w ∈ wsL_law := fun _ h => List.mem_append_left _ (List.mem_append_left _ (List.mem_append_left _ (List.mem_append_left _ (List.mem_append_left _ (List.mem_append_left _ (List.mem_append_left _ (List.mem_append_left _ (List.mem_append_left _ (List.mem_append_left _ (List.mem_append_right _ (List.mem_append_right _ (List.mem_append_right _ (List.mem_append_right _ (List.mem_append_right _ (List.mem_append_right _ (List.mem_append_right _ (List.mem_append_right _ (List.mem_append_right _ (List.mem_append_right _ (List.mem_append_right _ (List.mem_append_right _ (List.mem_append_right _ (List.mem_append_right _ (List.mem_append_right _ (List.mem_append_right _ (List.mem_append_right _ (List.mem_append_right _ (List.mem_append_right _ (List.mem_append_right _ (List.mem_append_right _ (List.mem_append_right _ (List.mem_append_right _ (List.mem_append_right _ (List.mem_append_right _ (List.mem_append_left _ h)))))))))))))))))))))))))))))))))))
theorem q600 : Cond.selects RX2 yX2_readingOf yX2_readingOf ∈ wsL_law := lwc_26 _ (List.mem_of_getElem? (i := 0) rfl)
theorem q601 : Cond.code yX2_readingOf cX2_readingOf 4 (some .int) ∈ wsL_law := lwc_26 _ (List.mem_of_getElem? (i := 1) rfl)
theorem q602 : Cond.constant RX2 81 (-2000000004) ∈ wsL_law := lwc_26 _ (List.mem_of_getElem? (i := 2) rfl)
theorem q603 : Cond.constantLong RX2 82 (1000000) ∈ wsL_law := lwc_26 _ (List.mem_of_getElem? (i := 3) rfl)
theorem q604 : Cond.methodLink RX2 84 yX5_temperatureFor ∈ wsL_law := lwc_26 _ (List.mem_of_getElem? (i := 4) rfl)
theorem q605 : Cond.methodLink RX2 59 yX2_diagnosisOf ∈ wsL_law := lwc_26 _ (List.mem_of_getElem? (i := 5) rfl)
theorem q606 : Cond.instanceMethod yX2_diagnosisOf ∈ wsL_law := lwc_26 _ (List.mem_of_getElem? (i := 6) rfl)
theorem q607 : Cond.selects RX2 yX2_diagnosisOf yX2_diagnosisOf ∈ wsL_law := lwc_26 _ (List.mem_of_getElem? (i := 7) rfl)
theorem q608 : Cond.code yX2_diagnosisOf cX2_diagnosisOf 4 (some .int) ∈ wsL_law := lwc_26 _ (List.mem_of_getElem? (i := 8) rfl)
theorem q609 : Cond.fieldLink RX2 94 "OhmBridge$Sensor" "brokenWires" "I" ∈ wsL_law := lwc_26 _ (List.mem_of_getElem? (i := 9) rfl)
theorem q610 : Cond.methodLink RX2 103 Lib.Math.abs.name ∈ wsL_law := lwc_26 _ (List.mem_of_getElem? (i := 10) rfl)
theorem q611 : Cond.static Lib.Math.abs.name ∈ wsL_law := lwc_26 _ (List.mem_of_getElem? (i := 11) rfl)
theorem q612 : Cond.code Lib.Math.abs.name Lib.Math.abs.code 1 (some .int) ∈ wsL_law := lwc_26 _ (List.mem_of_getElem? (i := 12) rfl)
theorem q613 : Cond.methodLink RX2 90 yX3_isPlugged ∈ wsL_law := lwc_26 _ (List.mem_of_getElem? (i := 13) rfl)
theorem q614 : Cond.methodLink RX2 97 yX1_isAtBound ∈ wsL_law := lwc_26 _ (List.mem_of_getElem? (i := 14) rfl)
theorem q615 : Cond.instanceMethod yX1_isAtBound ∈ wsL_law := lwc_26 _ (List.mem_of_getElem? (i := 15) rfl)
theorem q616 : Cond.selects RX1 yX1_isAtBound yX1_isAtBound ∈ wsL_law := lwc_26 _ (List.mem_of_getElem? (i := 16) rfl)
theorem q617 : Cond.code yX1_isAtBound cX1_isAtBound 1 (some .boolean) ∈ wsL_law := lwc_26 _ (List.mem_of_getElem? (i := 17) rfl)
theorem q618 : Cond.methodLink RX2 100 yX3_leadOf ∈ wsL_law := lwc_26 _ (List.mem_of_getElem? (i := 18) rfl)
theorem q619 : Cond.methodLink RX2 106 yX3_isCompensated ∈ wsL_law := lwc_26 _ (List.mem_of_getElem? (i := 19) rfl)
theorem q620 : Cond.methodLink RX2 109 yX3_strainOf ∈ wsL_law := lwc_26 _ (List.mem_of_getElem? (i := 20) rfl)
theorem q621 : Cond.methodLink RX7 225 yX4_baseFor ∈ wsL_law := lwc_26 _ (List.mem_of_getElem? (i := 21) rfl)
theorem q622 : Cond.instanceMethod yX4_baseFor ∈ wsL_law := lwc_26 _ (List.mem_of_getElem? (i := 22) rfl)
theorem q623 : Cond.selects RX4 yX4_baseFor yX4_baseFor ∈ wsL_law := lwc_26 _ (List.mem_of_getElem? (i := 23) rfl)
theorem lwc_27 : ∀ w ∈ wsL_law_r27, w ∈ wsL_law := fun _ h => List.mem_append_left _ (List.mem_append_left _ (List.mem_append_left _ (List.mem_append_left _ (List.mem_append_left _ (List.mem_append_left _ (List.mem_append_left _ (List.mem_append_left _ (List.mem_append_left _ (List.mem_append_left _ (List.mem_append_right _ (List.mem_append_right _ (List.mem_append_right _ (List.mem_append_right _ (List.mem_append_right _ (List.mem_append_right _ (List.mem_append_right _ (List.mem_append_right _ (List.mem_append_right _ (List.mem_append_right _ (List.mem_append_right _ (List.mem_append_right _ (List.mem_append_right _ (List.mem_append_right _ (List.mem_append_right _ (List.mem_append_right _ (List.mem_append_right _ (List.mem_append_right _ (List.mem_append_right _ (List.mem_append_right _ (List.mem_append_right _ (List.mem_append_right _ (List.mem_append_right _ (List.mem_append_right _ (List.mem_append_right _ (List.mem_append_right _ (List.mem_append_left _ h))))))))))))))))))))))))))))))))))))
theorem q624 : Cond.code yX4_baseFor cX4_baseFor 8 (some .long) ∈ wsL_law := lwc_27 _ (List.mem_of_getElem? (i := 0) rfl)
theorem q625 : Cond.constantLong RX4 85 (1000000) ∈ wsL_law := lwc_27 _ (List.mem_of_getElem? (i := 1) rfl)
theorem q626 : Cond.methodLink RX4 82 yX5_ratioAt ∈ wsL_law := lwc_27 _ (List.mem_of_getElem? (i := 2) rfl)
theorem q627 : Cond.methodLink RL 76 yX8_calibrate ∈ wsL_law := lwc_27 _ (List.mem_of_getElem? (i := 3) rfl)
theorem q628 : Cond.instanceMethod yX8_calibrate ∈ wsL_law := lwc_27 _ (List.mem_of_getElem? (i := 4) rfl)
theorem q629 : Cond.selects RX8 yX8_calibrate yX8_calibrate ∈ wsL_law := lwc_27 _ (List.mem_of_getElem? (i := 5) rfl)
theorem q630 : Cond.code yX8_calibrate cX8_calibrate 5 (some .int) ∈ wsL_law := lwc_27 _ (List.mem_of_getElem? (i := 6) rfl)
theorem q631 : Cond.methodLink RX8 128 yX8_diagnosed ∈ wsL_law := lwc_27 _ (List.mem_of_getElem? (i := 7) rfl)
theorem q632 : Cond.instanceMethod yX8_diagnosed ∈ wsL_law := lwc_27 _ (List.mem_of_getElem? (i := 8) rfl)
theorem q633 : Cond.selects RX8 yX8_diagnosed yX8_diagnosed ∈ wsL_law := lwc_27 _ (List.mem_of_getElem? (i := 9) rfl)
theorem q634 : Cond.code yX8_diagnosed cX8_diagnosed 2 (some .int) ∈ wsL_law := lwc_27 _ (List.mem_of_getElem? (i := 10) rfl)
theorem q635 : Cond.methodLink RX8 131 yX8_without ∈ wsL_law := lwc_27 _ (List.mem_of_getElem? (i := 11) rfl)
theorem q636 : Cond.instanceMethod yX8_without ∈ wsL_law := lwc_27 _ (List.mem_of_getElem? (i := 12) rfl)
theorem q637 : Cond.selects RX8 yX8_without yX8_without ∈ wsL_law := lwc_27 _ (List.mem_of_getElem? (i := 13) rfl)
theorem q638 : Cond.code yX8_without cX8_without 12 (some .long) ∈ wsL_law := lwc_27 _ (List.mem_of_getElem? (i := 14) rfl)
theorem q639 : Cond.constantLong RX8 172 (-2000000000) ∈ wsL_law := lwc_27 _ (List.mem_of_getElem? (i := 15) rfl)
theorem q640 : Cond.constantLong RX8 174 (2000000000) ∈ wsL_law := lwc_27 _ (List.mem_of_getElem? (i := 16) rfl)
theorem q641 : Cond.methodLink RX8 169 yX8_compensated ∈ wsL_law := lwc_27 _ (List.mem_of_getElem? (i := 17) rfl)
theorem q642 : Cond.instanceMethod yX8_compensated ∈ wsL_law := lwc_27 _ (List.mem_of_getElem? (i := 18) rfl)
theorem q643 : Cond.selects RX8 yX8_compensated yX8_compensated ∈ wsL_law := lwc_27 _ (List.mem_of_getElem? (i := 19) rfl)
theorem q644 : Cond.code yX8_compensated cX8_compensated 5 (some .long) ∈ wsL_law := lwc_27 _ (List.mem_of_getElem? (i := 20) rfl)
theorem q645 : Cond.methodLink RX8 162 yX8_countsOf ∈ wsL_law := lwc_27 _ (List.mem_of_getElem? (i := 21) rfl)
theorem q646 : Cond.instanceMethod yX8_countsOf ∈ wsL_law := lwc_27 _ (List.mem_of_getElem? (i := 22) rfl)
theorem q647 : Cond.selects RX8 yX8_countsOf yX8_countsOf ∈ wsL_law := lwc_27 _ (List.mem_of_getElem? (i := 23) rfl)
theorem lwc_28 : ∀ w ∈ wsL_law_r28, w ∈ wsL_law := fun _ h => List.mem_append_left _ (List.mem_append_left _ (List.mem_append_left _ (List.mem_append_left _ (List.mem_append_left _ (List.mem_append_left _ (List.mem_append_left _ (List.mem_append_left _ (List.mem_append_left _ (List.mem_append_left _ (List.mem_append_right _ (List.mem_append_right _ (List.mem_append_right _ (List.mem_append_right _ (List.mem_append_right _ (List.mem_append_right _ (List.mem_append_right _ (List.mem_append_right _ (List.mem_append_right _ (List.mem_append_right _ (List.mem_append_right _ (List.mem_append_right _ (List.mem_append_right _ (List.mem_append_right _ (List.mem_append_right _ (List.mem_append_right _ (List.mem_append_right _ (List.mem_append_right _ (List.mem_append_right _ (List.mem_append_right _ (List.mem_append_right _ (List.mem_append_right _ (List.mem_append_right _ (List.mem_append_right _ (List.mem_append_right _ (List.mem_append_right _ (List.mem_append_right _ (List.mem_append_left _ h)))))))))))))))))))))))))))))))))))))
theorem q648 : Cond.code yX8_countsOf cX8_countsOf 5 (some .long) ∈ wsL_law := lwc_28 _ (List.mem_of_getElem? (i := 0) rfl)
theorem q649 : Cond.constantLong RX8 153 (2) ∈ wsL_law := lwc_28 _ (List.mem_of_getElem? (i := 1) rfl)
theorem q650 : Cond.methodLink RX8 149 yX8_countsOneWay ∈ wsL_law := lwc_28 _ (List.mem_of_getElem? (i := 2) rfl)
theorem q651 : Cond.instanceMethod yX8_countsOneWay ∈ wsL_law := lwc_28 _ (List.mem_of_getElem? (i := 3) rfl)
theorem q652 : Cond.selects RX8 yX8_countsOneWay yX8_countsOneWay ∈ wsL_law := lwc_28 _ (List.mem_of_getElem? (i := 4) rfl)
theorem q653 : Cond.code yX8_countsOneWay cX8_countsOneWay 13 (some .long) ∈ wsL_law := lwc_28 _ (List.mem_of_getElem? (i := 5) rfl)
theorem q654 : Cond.constantLong RX8 158 (4) ∈ wsL_law := lwc_28 _ (List.mem_of_getElem? (i := 6) rfl)
theorem q655 : Cond.constantLong RX8 160 (-4) ∈ wsL_law := lwc_28 _ (List.mem_of_getElem? (i := 7) rfl)
theorem q656 : Cond.methodLink RX8 155 yX8_loop ∈ wsL_law := lwc_28 _ (List.mem_of_getElem? (i := 8) rfl)
theorem q657 : Cond.instanceMethod yX8_loop ∈ wsL_law := lwc_28 _ (List.mem_of_getElem? (i := 9) rfl)
theorem q658 : Cond.selects RX8 yX8_loop yX8_loop ∈ wsL_law := lwc_28 _ (List.mem_of_getElem? (i := 10) rfl)
theorem q659 : Cond.code yX8_loop cX8_loop 3 (some .long) ∈ wsL_law := lwc_28 _ (List.mem_of_getElem? (i := 11) rfl)
theorem q660 : Cond.methodLink RX8 146 yX8_heated ∈ wsL_law := lwc_28 _ (List.mem_of_getElem? (i := 12) rfl)
theorem q661 : Cond.instanceMethod yX8_heated ∈ wsL_law := lwc_28 _ (List.mem_of_getElem? (i := 13) rfl)
theorem q662 : Cond.selects RX8 yX8_heated yX8_heated ∈ wsL_law := lwc_28 _ (List.mem_of_getElem? (i := 14) rfl)
theorem q663 : Cond.code yX8_heated cX8_heated 8 (some .long) ∈ wsL_law := lwc_28 _ (List.mem_of_getElem? (i := 15) rfl)
theorem q664 : Cond.methodLink RX8 142 yX8_resistance ∈ wsL_law := lwc_28 _ (List.mem_of_getElem? (i := 16) rfl)
theorem q665 : Cond.instanceMethod yX8_resistance ∈ wsL_law := lwc_28 _ (List.mem_of_getElem? (i := 17) rfl)
theorem q666 : Cond.selects RX8 yX8_resistance yX8_resistance ∈ wsL_law := lwc_28 _ (List.mem_of_getElem? (i := 18) rfl)
theorem q667 : Cond.code yX8_resistance cX8_resistance 3 (some .long) ∈ wsL_law := lwc_28 _ (List.mem_of_getElem? (i := 19) rfl)
theorem q668 : Cond.methodLink RX8 165 yX8_byCounts ∈ wsL_law := lwc_28 _ (List.mem_of_getElem? (i := 20) rfl)
theorem q669 : Cond.instanceMethod yX8_byCounts ∈ wsL_law := lwc_28 _ (List.mem_of_getElem? (i := 21) rfl)
theorem q670 : Cond.selects RX8 yX8_byCounts yX8_byCounts ∈ wsL_law := lwc_28 _ (List.mem_of_getElem? (i := 22) rfl)
theorem q671 : Cond.code yX8_byCounts cX8_byCounts 3 (some .long) ∈ wsL_law := lwc_28 _ (List.mem_of_getElem? (i := 23) rfl)
theorem lwc_29 : ∀ w ∈ wsL_law_r29, w ∈ wsL_law := fun _ h => List.mem_append_left _ (List.mem_append_left _ (List.mem_append_left _ (List.mem_append_left _ (List.mem_append_left _ (List.mem_append_left _ (List.mem_append_left _ (List.mem_append_left _ (List.mem_append_left _ (List.mem_append_left _ (List.mem_append_right _ (List.mem_append_right _ (List.mem_append_right _ (List.mem_append_right _ (List.mem_append_right _ (List.mem_append_right _ (List.mem_append_right _ (List.mem_append_right _ (List.mem_append_right _ (List.mem_append_right _ (List.mem_append_right _ (List.mem_append_right _ (List.mem_append_right _ (List.mem_append_right _ (List.mem_append_right _ (List.mem_append_right _ (List.mem_append_right _ (List.mem_append_right _ (List.mem_append_right _ (List.mem_append_right _ (List.mem_append_right _ (List.mem_append_right _ (List.mem_append_right _ (List.mem_append_right _ (List.mem_append_right _ (List.mem_append_right _ (List.mem_append_right _ (List.mem_append_right _ (List.mem_append_left _ h))))))))))))))))))))))))))))))))))))))
theorem q672 : Cond.methodLink RX8 176 yX8_isBound ∈ wsL_law := lwc_29 _ (List.mem_of_getElem? (i := 0) rfl)
theorem q673 : Cond.instanceMethod yX8_isBound ∈ wsL_law := lwc_29 _ (List.mem_of_getElem? (i := 1) rfl)
theorem q674 : Cond.selects RX8 yX8_isBound yX8_isBound ∈ wsL_law := lwc_29 _ (List.mem_of_getElem? (i := 2) rfl)
theorem q675 : Cond.code yX8_isBound cX8_isBound 9 (some .boolean) ∈ wsL_law := lwc_29 _ (List.mem_of_getElem? (i := 3) rfl)
theorem q676 : Cond.methodLink RX8 179 yX8_size ∈ wsL_law := lwc_29 _ (List.mem_of_getElem? (i := 4) rfl)
theorem q677 : Cond.static yX8_size ∈ wsL_law := lwc_29 _ (List.mem_of_getElem? (i := 5) rfl)
theorem q678 : Cond.code yX8_size cX8_size 1 (some .int) ∈ wsL_law := lwc_29 _ (List.mem_of_getElem? (i := 6) rfl)
theorem q679 : Cond.methodLink RX8 182 yX8_degrees ∈ wsL_law := lwc_29 _ (List.mem_of_getElem? (i := 7) rfl)
theorem q680 : Cond.instanceMethod yX8_degrees ∈ wsL_law := lwc_29 _ (List.mem_of_getElem? (i := 8) rfl)
theorem q681 : Cond.selects RX8 yX8_degrees yX8_degrees ∈ wsL_law := lwc_29 _ (List.mem_of_getElem? (i := 9) rfl)
theorem q682 : Cond.code yX8_degrees cX8_degrees 2 (some .int) ∈ wsL_law := lwc_29 _ (List.mem_of_getElem? (i := 10) rfl)
theorem q683 : Cond.methodLink RL 77 yX7_limits ∈ wsL_law := lwc_29 _ (List.mem_of_getElem? (i := 11) rfl)
theorem q684 : Cond.instanceMethod yX7_limits ∈ wsL_law := lwc_29 _ (List.mem_of_getElem? (i := 12) rfl)
theorem q685 : Cond.selects RX7 yX7_limits yX7_limits ∈ wsL_law := lwc_29 _ (List.mem_of_getElem? (i := 13) rfl)
theorem q686 : Cond.code yX7_limits cX7_limits 7 (some .int) ∈ wsL_law := lwc_29 _ (List.mem_of_getElem? (i := 14) rfl)
theorem q687 : Cond.fieldLink RX7 234 "OhmBridge$Sensor" "alarm" "I" ∈ wsL_law := lwc_29 _ (List.mem_of_getElem? (i := 15) rfl)
theorem q688 : Cond.methodLink RX7 237 yX3_watch ∈ wsL_law := lwc_29 _ (List.mem_of_getElem? (i := 16) rfl)
theorem q689 : Cond.methodLink RL 81 yX8_limits ∈ wsL_law := lwc_29 _ (List.mem_of_getElem? (i := 17) rfl)
theorem q690 : Cond.instanceMethod yX8_limits ∈ wsL_law := lwc_29 _ (List.mem_of_getElem? (i := 18) rfl)
theorem q691 : Cond.selects RX8 yX8_limits yX8_limits ∈ wsL_law := lwc_29 _ (List.mem_of_getElem? (i := 19) rfl)
theorem q692 : Cond.code yX8_limits cX8_limits 6 (some .int) ∈ wsL_law := lwc_29 _ (List.mem_of_getElem? (i := 20) rfl)
theorem q693 : Cond.methodLink RL 82 yX7_sensorOf ∈ wsL_law := lwc_29 _ (List.mem_of_getElem? (i := 21) rfl)
theorem q694 : Cond.instanceMethod yX7_sensorOf ∈ wsL_law := lwc_29 _ (List.mem_of_getElem? (i := 22) rfl)
theorem q695 : Cond.selects RX7 yX7_sensorOf yX7_sensorOf ∈ wsL_law := lwc_29 _ (List.mem_of_getElem? (i := 23) rfl)
theorem lwc_30 : ∀ w ∈ wsL_law_r30, w ∈ wsL_law := fun _ h => List.mem_append_left _ (List.mem_append_left _ (List.mem_append_left _ (List.mem_append_left _ (List.mem_append_left _ (List.mem_append_left _ (List.mem_append_left _ (List.mem_append_left _ (List.mem_append_left _ (List.mem_append_left _ (List.mem_append_right _ (List.mem_append_right _ (List.mem_append_right _ (List.mem_append_right _ (List.mem_append_right _ (List.mem_append_right _ (List.mem_append_right _ (List.mem_append_right _ (List.mem_append_right _ (List.mem_append_right _ (List.mem_append_right _ (List.mem_append_right _ (List.mem_append_right _ (List.mem_append_right _ (List.mem_append_right _ (List.mem_append_right _ (List.mem_append_right _ (List.mem_append_right _ (List.mem_append_right _ (List.mem_append_right _ (List.mem_append_right _ (List.mem_append_right _ (List.mem_append_right _ (List.mem_append_right _ (List.mem_append_right _ (List.mem_append_right _ (List.mem_append_right _ (List.mem_append_right _ (List.mem_append_right _ (List.mem_append_left _ h)))))))))))))))))))))))))))))))))))))))
theorem q696 : Cond.code yX7_sensorOf cX7_sensorOf 4 (some .int) ∈ wsL_law := lwc_30 _ (List.mem_of_getElem? (i := 0) rfl)
theorem q697 : Cond.constantLong RX7 241 (18) ∈ wsL_law := lwc_30 _ (List.mem_of_getElem? (i := 1) rfl)
theorem q698 : Cond.constantLong RX7 243 (5) ∈ wsL_law := lwc_30 _ (List.mem_of_getElem? (i := 2) rfl)
theorem q699 : Cond.constantLong RX7 245 (8) ∈ wsL_law := lwc_30 _ (List.mem_of_getElem? (i := 3) rfl)
theorem q700 : Cond.constantLong RX7 247 (9) ∈ wsL_law := lwc_30 _ (List.mem_of_getElem? (i := 4) rfl)
theorem q701 : Cond.constantLong RX7 249 (11) ∈ wsL_law := lwc_30 _ (List.mem_of_getElem? (i := 5) rfl)
theorem q702 : Cond.fieldLink RX7 251 "OhmBridge$Sensor" "table" "I" ∈ wsL_law := lwc_30 _ (List.mem_of_getElem? (i := 6) rfl)
theorem q703 : Cond.fieldLink RX7 254 "OhmBridge$Sensor" "wires" "I" ∈ wsL_law := lwc_30 _ (List.mem_of_getElem? (i := 7) rfl)
theorem q704 : Cond.fieldLink RX7 257 "OhmBridge$Sensor" "low" "I" ∈ wsL_law := lwc_30 _ (List.mem_of_getElem? (i := 8) rfl)
theorem q705 : Cond.fieldLink RX7 260 "OhmBridge$Sensor" "high" "I" ∈ wsL_law := lwc_30 _ (List.mem_of_getElem? (i := 9) rfl)
theorem q706 : Cond.fieldLink RX7 263 "OhmBridge$Sensor" "hysteresis" "I" ∈ wsL_law := lwc_30 _ (List.mem_of_getElem? (i := 10) rfl)
theorem q707 : Cond.fieldLink RX7 266 "OhmBridge$Sensor" "readings" "I" ∈ wsL_law := lwc_30 _ (List.mem_of_getElem? (i := 11) rfl)
theorem q708 : Cond.methodLink RL 85 yX8_sensorOf ∈ wsL_law := lwc_30 _ (List.mem_of_getElem? (i := 12) rfl)
theorem q709 : Cond.instanceMethod yX8_sensorOf ∈ wsL_law := lwc_30 _ (List.mem_of_getElem? (i := 13) rfl)
theorem q710 : Cond.selects RX8 yX8_sensorOf yX8_sensorOf ∈ wsL_law := lwc_30 _ (List.mem_of_getElem? (i := 14) rfl)
theorem q711 : Cond.code yX8_sensorOf cX8_sensorOf 4 (some .int) ∈ wsL_law := lwc_30 _ (List.mem_of_getElem? (i := 15) rfl)
theorem q712 : Cond.methodLink RL 86 yX7_set ∈ wsL_law := lwc_30 _ (List.mem_of_getElem? (i := 16) rfl)
theorem q713 : Cond.instanceMethod yX7_set ∈ wsL_law := lwc_30 _ (List.mem_of_getElem? (i := 17) rfl)
theorem q714 : Cond.selects RX7 yX7_set yX7_set ∈ wsL_law := lwc_30 _ (List.mem_of_getElem? (i := 18) rfl)
theorem q715 : Cond.code yX7_set cX7_set 4 (some .int) ∈ wsL_law := lwc_30 _ (List.mem_of_getElem? (i := 19) rfl)
theorem q716 : Cond.fieldLink RX7 269 "OhmBridge" "LEAST_SETTING" "[I" ∈ wsL_law := lwc_30 _ (List.mem_of_getElem? (i := 20) rfl)
theorem q717 : Cond.fieldLink RX7 272 "OhmBridge" "GREATEST_SETTING" "[I" ∈ wsL_law := lwc_30 _ (List.mem_of_getElem? (i := 21) rfl)
theorem q718 : Cond.methodLink RX7 275 yX4_setting ∈ wsL_law := lwc_30 _ (List.mem_of_getElem? (i := 22) rfl)
theorem q719 : Cond.methodLink RX7 278 yX4_changeSetting ∈ wsL_law := lwc_30 _ (List.mem_of_getElem? (i := 23) rfl)
theorem lwc_31 : ∀ w ∈ wsL_law_r31, w ∈ wsL_law := fun _ h => List.mem_append_left _ (List.mem_append_left _ (List.mem_append_left _ (List.mem_append_left _ (List.mem_append_left _ (List.mem_append_left _ (List.mem_append_left _ (List.mem_append_left _ (List.mem_append_left _ (List.mem_append_left _ (List.mem_append_right _ (List.mem_append_right _ (List.mem_append_right _ (List.mem_append_right _ (List.mem_append_right _ (List.mem_append_right _ (List.mem_append_right _ (List.mem_append_right _ (List.mem_append_right _ (List.mem_append_right _ (List.mem_append_right _ (List.mem_append_right _ (List.mem_append_right _ (List.mem_append_right _ (List.mem_append_right _ (List.mem_append_right _ (List.mem_append_right _ (List.mem_append_right _ (List.mem_append_right _ (List.mem_append_right _ (List.mem_append_right _ (List.mem_append_right _ (List.mem_append_right _ (List.mem_append_right _ (List.mem_append_right _ (List.mem_append_right _ (List.mem_append_right _ (List.mem_append_right _ (List.mem_append_right _ (List.mem_append_right _ (List.mem_append_left _ h))))))))))))))))))))))))))))))))))))))))
theorem q720 : Cond.instanceMethod yX4_changeSetting ∈ wsL_law := lwc_31 _ (List.mem_of_getElem? (i := 0) rfl)
theorem q721 : Cond.selects RX4 yX4_changeSetting yX4_changeSetting ∈ wsL_law := lwc_31 _ (List.mem_of_getElem? (i := 1) rfl)
theorem q722 : Cond.code yX4_changeSetting cX4_changeSetting 3 none ∈ wsL_law := lwc_31 _ (List.mem_of_getElem? (i := 2) rfl)
theorem q723 : Cond.methodLink RL 89 yX8_set ∈ wsL_law := lwc_31 _ (List.mem_of_getElem? (i := 3) rfl)
theorem q724 : Cond.instanceMethod yX8_set ∈ wsL_law := lwc_31 _ (List.mem_of_getElem? (i := 4) rfl)
theorem q725 : Cond.selects RX8 yX8_set yX8_set ∈ wsL_law := lwc_31 _ (List.mem_of_getElem? (i := 5) rfl)
theorem q726 : Cond.code yX8_set cX8_set 4 (some .int) ∈ wsL_law := lwc_31 _ (List.mem_of_getElem? (i := 6) rfl)
theorem q727 : Cond.methodLink RX8 136 yX8_least ∈ wsL_law := lwc_31 _ (List.mem_of_getElem? (i := 7) rfl)
theorem q728 : Cond.static yX8_least ∈ wsL_law := lwc_31 _ (List.mem_of_getElem? (i := 8) rfl)
theorem q729 : Cond.code yX8_least cX8_least 1 (some .int) ∈ wsL_law := lwc_31 _ (List.mem_of_getElem? (i := 9) rfl)
theorem q730 : Cond.methodLink RX8 139 yX8_most ∈ wsL_law := lwc_31 _ (List.mem_of_getElem? (i := 10) rfl)
theorem q731 : Cond.static yX8_most ∈ wsL_law := lwc_31 _ (List.mem_of_getElem? (i := 11) rfl)
theorem q732 : Cond.code yX8_most cX8_most 1 (some .int) ∈ wsL_law := lwc_31 _ (List.mem_of_getElem? (i := 12) rfl)
theorem q733 : Cond.constant RX8 135 (1000000) ∈ wsL_law := lwc_31 _ (List.mem_of_getElem? (i := 13) rfl)
theorem q734 : Cond.methodLink RL 90 yX7_counts ∈ wsL_law := lwc_31 _ (List.mem_of_getElem? (i := 14) rfl)
theorem q735 : Cond.instanceMethod yX7_counts ∈ wsL_law := lwc_31 _ (List.mem_of_getElem? (i := 15) rfl)
theorem q736 : Cond.selects RX7 yX7_counts yX7_counts ∈ wsL_law := lwc_31 _ (List.mem_of_getElem? (i := 16) rfl)
theorem q737 : Cond.code yX7_counts cX7_counts 10 (some .int) ∈ wsL_law := lwc_31 _ (List.mem_of_getElem? (i := 17) rfl)
theorem q738 : Cond.constantLong RX7 281 (100) ∈ wsL_law := lwc_31 _ (List.mem_of_getElem? (i := 18) rfl)
theorem q739 : Cond.constantLong RX7 283 (5000) ∈ wsL_law := lwc_31 _ (List.mem_of_getElem? (i := 19) rfl)
theorem q740 : Cond.fieldLink RX7 292 "OhmBridge$Measurement" "oneWay" "J" ∈ wsL_law := lwc_31 _ (List.mem_of_getElem? (i := 20) rfl)
theorem q741 : Cond.fieldLink RX7 295 "OhmBridge$Measurement" "secondOneWay" "J" ∈ wsL_law := lwc_31 _ (List.mem_of_getElem? (i := 21) rfl)
theorem q742 : Cond.fieldLink RX7 298 "OhmBridge$Measurement" "otherWay" "J" ∈ wsL_law := lwc_31 _ (List.mem_of_getElem? (i := 22) rfl)
theorem q743 : Cond.fieldLink RX7 301 "OhmBridge$Measurement" "secondOtherWay" "J" ∈ wsL_law := lwc_31 _ (List.mem_of_getElem? (i := 23) rfl)
theorem lwc_32 : ∀ w ∈ wsL_law_r32, w ∈ wsL_law := fun _ h => List.mem_append_left _ (List.mem_append_left _ (List.mem_append_left _ (List.mem_append_left _ (List.mem_append_left _ (List.mem_append_left _ (List.mem_append_left _ (List.mem_append_left _ (List.mem_append_left _ (List.mem_append_left _ (List.mem_append_right _ (List.mem_append_right _ (List.mem_append_right _ (List.mem_append_right _ (List.mem_append_right _ (List.mem_append_right _ (List.mem_append_right _ (List.mem_append_right _ (List.mem_append_right _ (List.mem_append_right _ (List.mem_append_right _ (List.mem_append_right _ (List.mem_append_right _ (List.mem_append_right _ (List.mem_append_right _ (List.mem_append_right _ (List.mem_append_right _ (List.mem_append_right _ (List.mem_append_right _ (List.mem_append_right _ (List.mem_append_right _ (List.mem_append_right _ (List.mem_append_right _ (List.mem_append_right _ (List.mem_append_right _ (List.mem_append_right _ (List.mem_append_right _ (List.mem_append_right _ (List.mem_append_right _ (List.mem_append_right _ (List.mem_append_right _ (List.mem_append_left _ h)))))))))))))))))))))))))))))))))))))))))
theorem q744 : Cond.methodLink RX7 285 yX3_isCompensated ∈ wsL_law := lwc_32 _ (List.mem_of_getElem? (i := 0) rfl)
theorem q745 : Cond.methodLink RX7 288 yX1_take ∈ wsL_law := lwc_32 _ (List.mem_of_getElem? (i := 1) rfl)
theorem q746 : Cond.methodLink RL 93 yX8_counts ∈ wsL_law := lwc_32 _ (List.mem_of_getElem? (i := 2) rfl)
theorem q747 : Cond.instanceMethod yX8_counts ∈ wsL_law := lwc_32 _ (List.mem_of_getElem? (i := 3) rfl)
theorem q748 : Cond.selects RX8 yX8_counts yX8_counts ∈ wsL_law := lwc_32 _ (List.mem_of_getElem? (i := 4) rfl)
theorem q749 : Cond.code yX8_counts cX8_counts 5 (some .int) ∈ wsL_law := lwc_32 _ (List.mem_of_getElem? (i := 5) rfl)
theorem q750 : Cond.methodLink RL 94 yX7_ohms ∈ wsL_law := lwc_32 _ (List.mem_of_getElem? (i := 6) rfl)
theorem q751 : Cond.instanceMethod yX7_ohms ∈ wsL_law := lwc_32 _ (List.mem_of_getElem? (i := 7) rfl)
theorem q752 : Cond.selects RX7 yX7_ohms yX7_ohms ∈ wsL_law := lwc_32 _ (List.mem_of_getElem? (i := 8) rfl)
theorem q753 : Cond.code yX7_ohms cX7_ohms 4 (some .int) ∈ wsL_law := lwc_32 _ (List.mem_of_getElem? (i := 9) rfl)
theorem q754 : Cond.fieldLink RX7 304 "OhmBridge$Meter" "first" "LOhmBridge$Measurement;" ∈ wsL_law := lwc_32 _ (List.mem_of_getElem? (i := 10) rfl)
theorem q755 : Cond.fieldLink RX7 307 "OhmBridge$Measurement" "heated" "J" ∈ wsL_law := lwc_32 _ (List.mem_of_getElem? (i := 11) rfl)
theorem q756 : Cond.fieldLink RX7 314 "OhmBridge$Measurement" "loopOhms" "J" ∈ wsL_law := lwc_32 _ (List.mem_of_getElem? (i := 12) rfl)
theorem q757 : Cond.fieldLink RX7 317 "OhmBridge$Measurement" "compensated" "J" ∈ wsL_law := lwc_32 _ (List.mem_of_getElem? (i := 13) rfl)
theorem q758 : Cond.fieldLink RX7 320 "OhmBridge$Meter" "second" "LOhmBridge$Measurement;" ∈ wsL_law := lwc_32 _ (List.mem_of_getElem? (i := 14) rfl)
theorem q759 : Cond.methodLink RX7 310 yX1_ohmsBy ∈ wsL_law := lwc_32 _ (List.mem_of_getElem? (i := 15) rfl)
theorem q760 : Cond.methodLink RL 97 yX8_ohms ∈ wsL_law := lwc_32 _ (List.mem_of_getElem? (i := 16) rfl)
theorem q761 : Cond.instanceMethod yX8_ohms ∈ wsL_law := lwc_32 _ (List.mem_of_getElem? (i := 17) rfl)
theorem q762 : Cond.selects RX8 yX8_ohms yX8_ohms ∈ wsL_law := lwc_32 _ (List.mem_of_getElem? (i := 18) rfl)
theorem q763 : Cond.code yX8_ohms cX8_ohms 3 (some .int) ∈ wsL_law := lwc_32 _ (List.mem_of_getElem? (i := 19) rfl)
theorem q764 : Cond.methodLink RL 98 yX7_diagnosis ∈ wsL_law := lwc_32 _ (List.mem_of_getElem? (i := 20) rfl)
theorem q765 : Cond.instanceMethod yX7_diagnosis ∈ wsL_law := lwc_32 _ (List.mem_of_getElem? (i := 21) rfl)
theorem q766 : Cond.selects RX7 yX7_diagnosis yX7_diagnosis ∈ wsL_law := lwc_32 _ (List.mem_of_getElem? (i := 22) rfl)
theorem q767 : Cond.code yX7_diagnosis cX7_diagnosis 3 (some .int) ∈ wsL_law := lwc_32 _ (List.mem_of_getElem? (i := 23) rfl)
theorem lwc_33 : ∀ w ∈ wsL_law_r33, w ∈ wsL_law := fun _ h => List.mem_append_left _ (List.mem_append_left _ (List.mem_append_left _ (List.mem_append_left _ (List.mem_append_left _ (List.mem_append_left _ (List.mem_append_left _ (List.mem_append_left _ (List.mem_append_left _ (List.mem_append_left _ (List.mem_append_right _ (List.mem_append_right _ (List.mem_append_right _ (List.mem_append_right _ (List.mem_append_right _ (List.mem_append_right _ (List.mem_append_right _ (List.mem_append_right _ (List.mem_append_right _ (List.mem_append_right _ (List.mem_append_right _ (List.mem_append_right _ (List.mem_append_right _ (List.mem_append_right _ (List.mem_append_right _ (List.mem_append_right _ (List.mem_append_right _ (List.mem_append_right _ (List.mem_append_right _ (List.mem_append_right _ (List.mem_append_right _ (List.mem_append_right _ (List.mem_append_right _ (List.mem_append_right _ (List.mem_append_right _ (List.mem_append_right _ (List.mem_append_right _ (List.mem_append_right _ (List.mem_append_right _ (List.mem_append_right _ (List.mem_append_right _ (List.mem_append_right _ (List.mem_append_left _ h))))))))))))))))))))))))))))))))))))))))))
theorem q768 : Cond.methodLink RL 101 yX8_diagnosis ∈ wsL_law := lwc_33 _ (List.mem_of_getElem? (i := 0) rfl)
theorem q769 : Cond.instanceMethod yX8_diagnosis ∈ wsL_law := lwc_33 _ (List.mem_of_getElem? (i := 1) rfl)
theorem q770 : Cond.selects RX8 yX8_diagnosis yX8_diagnosis ∈ wsL_law := lwc_33 _ (List.mem_of_getElem? (i := 2) rfl)
theorem q771 : Cond.code yX8_diagnosis cX8_diagnosis 2 (some .int) ∈ wsL_law := lwc_33 _ (List.mem_of_getElem? (i := 3) rfl)
theorem q772 : Cond.methodLink RL 102 yX7_read ∈ wsL_law := lwc_33 _ (List.mem_of_getElem? (i := 4) rfl)
theorem q773 : Cond.instanceMethod yX7_read ∈ wsL_law := lwc_33 _ (List.mem_of_getElem? (i := 5) rfl)
theorem q774 : Cond.selects RX7 yX7_read yX7_read ∈ wsL_law := lwc_33 _ (List.mem_of_getElem? (i := 6) rfl)
theorem q775 : Cond.code yX7_read cX7_read 3 (some .int) ∈ wsL_law := lwc_33 _ (List.mem_of_getElem? (i := 7) rfl)
theorem q776 : Cond.fieldLink RX7 323 "OhmBridge$Meter" "reading" "I" ∈ wsL_law := lwc_33 _ (List.mem_of_getElem? (i := 8) rfl)
theorem q777 : Cond.methodLink RX7 326 yX3_log ∈ wsL_law := lwc_33 _ (List.mem_of_getElem? (i := 9) rfl)
theorem q778 : Cond.instanceMethod yX3_log ∈ wsL_law := lwc_33 _ (List.mem_of_getElem? (i := 10) rfl)
theorem q779 : Cond.selects RX3 yX3_log yX3_log ∈ wsL_law := lwc_33 _ (List.mem_of_getElem? (i := 11) rfl)
theorem q780 : Cond.code yX3_log cX3_log 3 none ∈ wsL_law := lwc_33 _ (List.mem_of_getElem? (i := 12) rfl)
theorem q781 : Cond.methodLink RL 105 yX8_read ∈ wsL_law := lwc_33 _ (List.mem_of_getElem? (i := 13) rfl)
theorem q782 : Cond.instanceMethod yX8_read ∈ wsL_law := lwc_33 _ (List.mem_of_getElem? (i := 14) rfl)
theorem q783 : Cond.selects RX8 yX8_read yX8_read ∈ wsL_law := lwc_33 _ (List.mem_of_getElem? (i := 15) rfl)
theorem q784 : Cond.code yX8_read cX8_read 2 (some .int) ∈ wsL_law := lwc_33 _ (List.mem_of_getElem? (i := 16) rfl)
theorem q785 : Cond.methodLink RX8 189 yX8_reads ∈ wsL_law := lwc_33 _ (List.mem_of_getElem? (i := 17) rfl)
theorem q786 : Cond.instanceMethod yX8_reads ∈ wsL_law := lwc_33 _ (List.mem_of_getElem? (i := 18) rfl)
theorem q787 : Cond.selects RX8 yX8_reads yX8_reads ∈ wsL_law := lwc_33 _ (List.mem_of_getElem? (i := 19) rfl)
theorem q788 : Cond.code yX8_reads cX8_reads 4 (some .int) ∈ wsL_law := lwc_33 _ (List.mem_of_getElem? (i := 20) rfl)
theorem q789 : Cond.methodLink RX8 185 yX8_alarms ∈ wsL_law := lwc_33 _ (List.mem_of_getElem? (i := 21) rfl)
theorem q790 : Cond.instanceMethod yX8_alarms ∈ wsL_law := lwc_33 _ (List.mem_of_getElem? (i := 22) rfl)
theorem q791 : Cond.selects RX8 yX8_alarms yX8_alarms ∈ wsL_law := lwc_33 _ (List.mem_of_getElem? (i := 23) rfl)
theorem lwc_34 : ∀ w ∈ wsL_law_r34, w ∈ wsL_law := fun _ h => List.mem_append_left _ (List.mem_append_left _ (List.mem_append_left _ (List.mem_append_left _ (List.mem_append_left _ (List.mem_append_left _ (List.mem_append_left _ (List.mem_append_left _ (List.mem_append_left _ (List.mem_append_left _ (List.mem_append_right _ (List.mem_append_right _ (List.mem_append_right _ (List.mem_append_right _ (List.mem_append_right _ (List.mem_append_right _ (List.mem_append_right _ (List.mem_append_right _ (List.mem_append_right _ (List.mem_append_right _ (List.mem_append_right _ (List.mem_append_right _ (List.mem_append_right _ (List.mem_append_right _ (List.mem_append_right _ (List.mem_append_right _ (List.mem_append_right _ (List.mem_append_right _ (List.mem_append_right _ (List.mem_append_right _ (List.mem_append_right _ (List.mem_append_right _ (List.mem_append_right _ (List.mem_append_right _ (List.mem_append_right _ (List.mem_append_right _ (List.mem_append_right _ (List.mem_append_right _ (List.mem_append_right _ (List.mem_append_right _ (List.mem_append_right _ (List.mem_append_right _ (List.mem_append_right _ (List.mem_append_left _ h)))))))))))))))))))))))))))))))))))))))))))
theorem q792 : Cond.code yX8_alarms cX8_alarms 6 none ∈ wsL_law := lwc_34 _ (List.mem_of_getElem? (i := 0) rfl)
theorem q793 : Cond.methodLink RL 106 yX7_scan ∈ wsL_law := lwc_34 _ (List.mem_of_getElem? (i := 1) rfl)
theorem q794 : Cond.instanceMethod yX7_scan ∈ wsL_law := lwc_34 _ (List.mem_of_getElem? (i := 2) rfl)
theorem q795 : Cond.selects RX7 yX7_scan yX7_scan ∈ wsL_law := lwc_34 _ (List.mem_of_getElem? (i := 3) rfl)
theorem q796 : Cond.code yX7_scan cX7_scan 3 (some .int) ∈ wsL_law := lwc_34 _ (List.mem_of_getElem? (i := 4) rfl)
theorem q797 : Cond.fieldLink RX7 333 "OhmBridge$State" "scanner" "I" ∈ wsL_law := lwc_34 _ (List.mem_of_getElem? (i := 5) rfl)
theorem q798 : Cond.methodLink RX7 329 yX4_nextPlugged ∈ wsL_law := lwc_34 _ (List.mem_of_getElem? (i := 6) rfl)
theorem q799 : Cond.instanceMethod yX4_nextPlugged ∈ wsL_law := lwc_34 _ (List.mem_of_getElem? (i := 7) rfl)
theorem q800 : Cond.selects RX4 yX4_nextPlugged yX4_nextPlugged ∈ wsL_law := lwc_34 _ (List.mem_of_getElem? (i := 8) rfl)
theorem q801 : Cond.code yX4_nextPlugged cX4_nextPlugged 3 (some .int) ∈ wsL_law := lwc_34 _ (List.mem_of_getElem? (i := 9) rfl)
theorem q802 : Cond.methodLink RL 109 yX8_scan ∈ wsL_law := lwc_34 _ (List.mem_of_getElem? (i := 10) rfl)
theorem q803 : Cond.instanceMethod yX8_scan ∈ wsL_law := lwc_34 _ (List.mem_of_getElem? (i := 11) rfl)
theorem q804 : Cond.selects RX8 yX8_scan yX8_scan ∈ wsL_law := lwc_34 _ (List.mem_of_getElem? (i := 12) rfl)
theorem q805 : Cond.code yX8_scan cX8_scan 1 (some .int) ∈ wsL_law := lwc_34 _ (List.mem_of_getElem? (i := 13) rfl)
theorem q806 : Cond.methodLink RX8 192 yX8_scans ∈ wsL_law := lwc_34 _ (List.mem_of_getElem? (i := 14) rfl)
theorem q807 : Cond.instanceMethod yX8_scans ∈ wsL_law := lwc_34 _ (List.mem_of_getElem? (i := 15) rfl)
theorem q808 : Cond.selects RX8 yX8_scans yX8_scans ∈ wsL_law := lwc_34 _ (List.mem_of_getElem? (i := 16) rfl)
theorem q809 : Cond.code yX8_scans cX8_scans 5 (some .int) ∈ wsL_law := lwc_34 _ (List.mem_of_getElem? (i := 17) rfl)
theorem q810 : Cond.methodLink RL 110 yX7_readingAt ∈ wsL_law := lwc_34 _ (List.mem_of_getElem? (i := 18) rfl)
theorem q811 : Cond.instanceMethod yX7_readingAt ∈ wsL_law := lwc_34 _ (List.mem_of_getElem? (i := 19) rfl)
theorem q812 : Cond.selects RX7 yX7_readingAt yX7_readingAt ∈ wsL_law := lwc_34 _ (List.mem_of_getElem? (i := 20) rfl)
theorem q813 : Cond.code yX7_readingAt cX7_readingAt 4 (some .int) ∈ wsL_law := lwc_34 _ (List.mem_of_getElem? (i := 21) rfl)
theorem q814 : Cond.methodLink RX7 336 yX3_keptReadings ∈ wsL_law := lwc_34 _ (List.mem_of_getElem? (i := 22) rfl)
theorem q815 : Cond.instanceMethod yX3_keptReadings ∈ wsL_law := lwc_34 _ (List.mem_of_getElem? (i := 23) rfl)
theorem lwc_35 : ∀ w ∈ wsL_law_r35, w ∈ wsL_law := fun _ h => List.mem_append_left _ (List.mem_append_left _ (List.mem_append_left _ (List.mem_append_left _ (List.mem_append_left _ (List.mem_append_left _ (List.mem_append_left _ (List.mem_append_left _ (List.mem_append_left _ (List.mem_append_left _ (List.mem_append_right _ (List.mem_append_right _ (List.mem_append_right _ (List.mem_append_right _ (List.mem_append_right _ (List.mem_append_right _ (List.mem_append_right _ (List.mem_append_right _ (List.mem_append_right _ (List.mem_append_right _ (List.mem_append_right _ (List.mem_append_right _ (List.mem_append_right _ (List.mem_append_right _ (List.mem_append_right _ (List.mem_append_right _ (List.mem_append_right _ (List.mem_append_right _ (List.mem_append_right _ (List.mem_append_right _ (List.mem_append_right _ (List.mem_append_right _ (List.mem_append_right _ (List.mem_append_right _ (List.mem_append_right _ (List.mem_append_right _ (List.mem_append_right _ (List.mem_append_right _ (List.mem_append_right _ (List.mem_append_right _ (List.mem_append_right _ (List.mem_append_right _ (List.mem_append_right _ (List.mem_append_right _ (List.mem_append_left _ h))))))))))))))))))))))))))))))))))))))))))))
theorem q816 : Cond.selects RX3 yX3_keptReadings yX3_keptReadings ∈ wsL_law := lwc_35 _ (List.mem_of_getElem? (i := 0) rfl)
theorem q817 : Cond.code yX3_keptReadings cX3_keptReadings 1 (some .int) ∈ wsL_law := lwc_35 _ (List.mem_of_getElem? (i := 1) rfl)
theorem q818 : Cond.methodLink RX3 70 Lib.Math.min.name ∈ wsL_law := lwc_35 _ (List.mem_of_getElem? (i := 2) rfl)
theorem q819 : Cond.methodLink RX7 339 yX3_reading ∈ wsL_law := lwc_35 _ (List.mem_of_getElem? (i := 3) rfl)
theorem q820 : Cond.instanceMethod yX3_reading ∈ wsL_law := lwc_35 _ (List.mem_of_getElem? (i := 4) rfl)
theorem q821 : Cond.selects RX3 yX3_reading yX3_reading ∈ wsL_law := lwc_35 _ (List.mem_of_getElem? (i := 5) rfl)
theorem q822 : Cond.code yX3_reading cX3_reading 2 (some .int) ∈ wsL_law := lwc_35 _ (List.mem_of_getElem? (i := 6) rfl)
theorem q823 : Cond.methodLink RL 113 yX8_readingAt ∈ wsL_law := lwc_35 _ (List.mem_of_getElem? (i := 7) rfl)
theorem q824 : Cond.instanceMethod yX8_readingAt ∈ wsL_law := lwc_35 _ (List.mem_of_getElem? (i := 8) rfl)
theorem q825 : Cond.selects RX8 yX8_readingAt yX8_readingAt ∈ wsL_law := lwc_35 _ (List.mem_of_getElem? (i := 9) rfl)
theorem q826 : Cond.code yX8_readingAt cX8_readingAt 4 (some .int) ∈ wsL_law := lwc_35 _ (List.mem_of_getElem? (i := 10) rfl)
theorem q827 : Cond.methodLink RL 114 yX7_median ∈ wsL_law := lwc_35 _ (List.mem_of_getElem? (i := 11) rfl)
theorem q828 : Cond.instanceMethod yX7_median ∈ wsL_law := lwc_35 _ (List.mem_of_getElem? (i := 12) rfl)
theorem q829 : Cond.selects RX7 yX7_median yX7_median ∈ wsL_law := lwc_35 _ (List.mem_of_getElem? (i := 13) rfl)
theorem q830 : Cond.code yX7_median cX7_median 5 (some .int) ∈ wsL_law := lwc_35 _ (List.mem_of_getElem? (i := 14) rfl)
theorem q831 : Cond.methodLink RX7 341 Lib.Math.min.name ∈ wsL_law := lwc_35 _ (List.mem_of_getElem? (i := 15) rfl)
theorem q832 : Cond.methodLink RX7 347 yX7_insertSorted ∈ wsL_law := lwc_35 _ (List.mem_of_getElem? (i := 16) rfl)
theorem q833 : Cond.instanceMethod yX7_insertSorted ∈ wsL_law := lwc_35 _ (List.mem_of_getElem? (i := 17) rfl)
theorem q834 : Cond.selects RX7 yX7_insertSorted yX7_insertSorted ∈ wsL_law := lwc_35 _ (List.mem_of_getElem? (i := 18) rfl)
theorem q835 : Cond.code yX7_insertSorted cX7_insertSorted 4 none ∈ wsL_law := lwc_35 _ (List.mem_of_getElem? (i := 19) rfl)
theorem q836 : Cond.methodLink RL 117 yX8_median ∈ wsL_law := lwc_35 _ (List.mem_of_getElem? (i := 20) rfl)
theorem q837 : Cond.instanceMethod yX8_median ∈ wsL_law := lwc_35 _ (List.mem_of_getElem? (i := 21) rfl)
theorem q838 : Cond.selects RX8 yX8_median yX8_median ∈ wsL_law := lwc_35 _ (List.mem_of_getElem? (i := 22) rfl)
theorem q839 : Cond.code yX8_median cX8_median 7 (some .int) ∈ wsL_law := lwc_35 _ (List.mem_of_getElem? (i := 23) rfl)
theorem lwc_36 : ∀ w ∈ wsL_law_r36, w ∈ wsL_law := fun _ h => List.mem_append_left _ (List.mem_append_left _ (List.mem_append_left _ (List.mem_append_left _ (List.mem_append_left _ (List.mem_append_left _ (List.mem_append_left _ (List.mem_append_left _ (List.mem_append_left _ (List.mem_append_left _ (List.mem_append_right _ (List.mem_append_right _ (List.mem_append_right _ (List.mem_append_right _ (List.mem_append_right _ (List.mem_append_right _ (List.mem_append_right _ (List.mem_append_right _ (List.mem_append_right _ (List.mem_append_right _ (List.mem_append_right _ (List.mem_append_right _ (List.mem_append_right _ (List.mem_append_right _ (List.mem_append_right _ (List.mem_append_right _ (List.mem_append_right _ (List.mem_append_right _ (List.mem_append_right _ (List.mem_append_right _ (List.mem_append_right _ (List.mem_append_right _ (List.mem_append_right _ (List.mem_append_right _ (List.mem_append_right _ (List.mem_append_right _ (List.mem_append_right _ (List.mem_append_right _ (List.mem_append_right _ (List.mem_append_right _ (List.mem_append_right _ (List.mem_append_right _ (List.mem_append_right _ (List.mem_append_right _ (List.mem_append_right _ (List.mem_append_left _ h)))))))))))))))))))))))))))))))))))))))))))))
theorem q840 : Cond.methodLink RL 118 yX7_meanBits ∈ wsL_law := lwc_36 _ (List.mem_of_getElem? (i := 0) rfl)
theorem q841 : Cond.instanceMethod yX7_meanBits ∈ wsL_law := lwc_36 _ (List.mem_of_getElem? (i := 1) rfl)
theorem q842 : Cond.selects RX7 yX7_meanBits yX7_meanBits ∈ wsL_law := lwc_36 _ (List.mem_of_getElem? (i := 2) rfl)
theorem q843 : Cond.code yX7_meanBits cX7_meanBits 7 (some .int) ∈ wsL_law := lwc_36 _ (List.mem_of_getElem? (i := 3) rfl)
theorem q844 : Cond.constantDouble RX7 350 (4652007308841189376) ∈ wsL_law := lwc_36 _ (List.mem_of_getElem? (i := 4) rfl)
theorem q845 : Cond.methodLink RX7 352 yX7_bitsOf ∈ wsL_law := lwc_36 _ (List.mem_of_getElem? (i := 5) rfl)
theorem q846 : Cond.static yX7_bitsOf ∈ wsL_law := lwc_36 _ (List.mem_of_getElem? (i := 6) rfl)
theorem q847 : Cond.code yX7_bitsOf cX7_bitsOf 5 (some .int) ∈ wsL_law := lwc_36 _ (List.mem_of_getElem? (i := 7) rfl)
theorem q848 : Cond.constantFloat RX7 430 (1258291200) ∈ wsL_law := lwc_36 _ (List.mem_of_getElem? (i := 8) rfl)
theorem q849 : Cond.constant RX7 431 (-2147483648) ∈ wsL_law := lwc_36 _ (List.mem_of_getElem? (i := 9) rfl)
theorem q850 : Cond.methodLink RL 121 yX8_meanBits ∈ wsL_law := lwc_36 _ (List.mem_of_getElem? (i := 10) rfl)
theorem q851 : Cond.instanceMethod yX8_meanBits ∈ wsL_law := lwc_36 _ (List.mem_of_getElem? (i := 11) rfl)
theorem q852 : Cond.selects RX8 yX8_meanBits yX8_meanBits ∈ wsL_law := lwc_36 _ (List.mem_of_getElem? (i := 12) rfl)
theorem q853 : Cond.code yX8_meanBits cX8_meanBits 7 (some .int) ∈ wsL_law := lwc_36 _ (List.mem_of_getElem? (i := 13) rfl)
theorem q854 : Cond.constantDouble RX8 196 (4652007308841189376) ∈ wsL_law := lwc_36 _ (List.mem_of_getElem? (i := 14) rfl)
theorem q855 : Cond.methodLink RX8 198 yJxf58ca_floatToIntBits_5c35a ∈ wsL_law := lwc_36 _ (List.mem_of_getElem? (i := 15) rfl)
theorem q856 : Cond.static yJxf58ca_floatToIntBits_5c35a ∈ wsL_law := lwc_36 _ (List.mem_of_getElem? (i := 16) rfl)
theorem q857 : Cond.initialized RJxf58ca ∈ wsL_law := lwc_36 _ (List.mem_of_getElem? (i := 17) rfl)
theorem q858 : Cond.code yJxf58ca_floatToIntBits_5c35a cJxf58ca_floatToIntBits_5c35a 1 (some .int) ∈ wsL_law := lwc_36 _ (List.mem_of_getElem? (i := 18) rfl)
theorem q859 : Cond.methodLink RJxf58ca 74 ⟨"java/lang/Float", "floatToRawIntBits", "(F)I"⟩ ∈ wsL_law := lwc_36 _ (List.mem_of_getElem? (i := 19) rfl)
theorem q860 : Cond.native ⟨"java/lang/Float", "floatToRawIntBits", "(F)I"⟩ ∈ wsL_law := lwc_36 _ (List.mem_of_getElem? (i := 20) rfl)
theorem q861 : Cond.static ⟨"java/lang/Float", "floatToRawIntBits", "(F)I"⟩ ∈ wsL_law := lwc_36 _ (List.mem_of_getElem? (i := 21) rfl)
theorem q862 : Cond.initialized "java/lang/Float" ∈ wsL_law := lwc_36 _ (List.mem_of_getElem? (i := 22) rfl)
theorem q863 : Cond.constant RJxf58ca 77 (2143289344) ∈ wsL_law := lwc_36 _ (List.mem_of_getElem? (i := 23) rfl)
theorem lwc_37 : ∀ w ∈ wsL_law_r37, w ∈ wsL_law := fun _ h => List.mem_append_left _ (List.mem_append_left _ (List.mem_append_left _ (List.mem_append_left _ (List.mem_append_left _ (List.mem_append_left _ (List.mem_append_left _ (List.mem_append_left _ (List.mem_append_left _ (List.mem_append_left _ (List.mem_append_right _ (List.mem_append_right _ (List.mem_append_right _ (List.mem_append_right _ (List.mem_append_right _ (List.mem_append_right _ (List.mem_append_right _ (List.mem_append_right _ (List.mem_append_right _ (List.mem_append_right _ (List.mem_append_right _ (List.mem_append_right _ (List.mem_append_right _ (List.mem_append_right _ (List.mem_append_right _ (List.mem_append_right _ (List.mem_append_right _ (List.mem_append_right _ (List.mem_append_right _ (List.mem_append_right _ (List.mem_append_right _ (List.mem_append_right _ (List.mem_append_right _ (List.mem_append_right _ (List.mem_append_right _ (List.mem_append_right _ (List.mem_append_right _ (List.mem_append_right _ (List.mem_append_right _ (List.mem_append_right _ (List.mem_append_right _ (List.mem_append_right _ (List.mem_append_right _ (List.mem_append_right _ (List.mem_append_right _ (List.mem_append_right _ (List.mem_append_left _ h))))))))))))))))))))))))))))))))))))))))))))))
theorem q864 : Cond.methodLink RJxf58ca 59 yJxf58ca_isNaN_12338 ∈ wsL_law := lwc_37 _ (List.mem_of_getElem? (i := 0) rfl)
theorem q865 : Cond.static yJxf58ca_isNaN_12338 ∈ wsL_law := lwc_37 _ (List.mem_of_getElem? (i := 1) rfl)
theorem q866 : Cond.code yJxf58ca_isNaN_12338 cJxf58ca_isNaN_12338 1 (some .boolean) ∈ wsL_law := lwc_37 _ (List.mem_of_getElem? (i := 2) rfl)
theorem q867 : Cond.methodLink RL 122 yX7_count ∈ wsL_law := lwc_37 _ (List.mem_of_getElem? (i := 3) rfl)
theorem q868 : Cond.instanceMethod yX7_count ∈ wsL_law := lwc_37 _ (List.mem_of_getElem? (i := 4) rfl)
theorem q869 : Cond.selects RX7 yX7_count yX7_count ∈ wsL_law := lwc_37 _ (List.mem_of_getElem? (i := 5) rfl)
theorem q870 : Cond.code yX7_count cX7_count 3 (some .int) ∈ wsL_law := lwc_37 _ (List.mem_of_getElem? (i := 6) rfl)
theorem q871 : Cond.constantLong RX7 356 (20) ∈ wsL_law := lwc_37 _ (List.mem_of_getElem? (i := 7) rfl)
theorem q872 : Cond.constantLong RX7 358 (26) ∈ wsL_law := lwc_37 _ (List.mem_of_getElem? (i := 8) rfl)
theorem q873 : Cond.constantLong RX7 360 (10) ∈ wsL_law := lwc_37 _ (List.mem_of_getElem? (i := 9) rfl)
theorem q874 : Cond.constantLong RX7 362 (12) ∈ wsL_law := lwc_37 _ (List.mem_of_getElem? (i := 10) rfl)
theorem q875 : Cond.fieldLink RX7 373 "OhmBridge$History" "size" "I" ∈ wsL_law := lwc_37 _ (List.mem_of_getElem? (i := 11) rfl)
theorem q876 : Cond.fieldLink RX7 376 "OhmBridge$Text" "length" "I" ∈ wsL_law := lwc_37 _ (List.mem_of_getElem? (i := 12) rfl)
theorem q877 : Cond.methodLink RX7 364 yX4_pluggedSensors ∈ wsL_law := lwc_37 _ (List.mem_of_getElem? (i := 13) rfl)
theorem q878 : Cond.instanceMethod yX4_pluggedSensors ∈ wsL_law := lwc_37 _ (List.mem_of_getElem? (i := 14) rfl)
theorem q879 : Cond.selects RX4 yX4_pluggedSensors yX4_pluggedSensors ∈ wsL_law := lwc_37 _ (List.mem_of_getElem? (i := 15) rfl)
theorem q880 : Cond.code yX4_pluggedSensors cX4_pluggedSensors 3 (some .int) ∈ wsL_law := lwc_37 _ (List.mem_of_getElem? (i := 16) rfl)
theorem q881 : Cond.methodLink RX4 65 yX4_takenSlots ∈ wsL_law := lwc_37 _ (List.mem_of_getElem? (i := 17) rfl)
theorem q882 : Cond.methodLink RX7 367 yX4_alarmsOn ∈ wsL_law := lwc_37 _ (List.mem_of_getElem? (i := 18) rfl)
theorem q883 : Cond.instanceMethod yX4_alarmsOn ∈ wsL_law := lwc_37 _ (List.mem_of_getElem? (i := 19) rfl)
theorem q884 : Cond.selects RX4 yX4_alarmsOn yX4_alarmsOn ∈ wsL_law := lwc_37 _ (List.mem_of_getElem? (i := 20) rfl)
theorem q885 : Cond.code yX4_alarmsOn cX4_alarmsOn 3 (some .int) ∈ wsL_law := lwc_37 _ (List.mem_of_getElem? (i := 21) rfl)
theorem q886 : Cond.fieldLink RX4 68 "OhmBridge$Sensor" "alarm" "I" ∈ wsL_law := lwc_37 _ (List.mem_of_getElem? (i := 22) rfl)
theorem q887 : Cond.methodLink RX7 370 yX4_allReadings ∈ wsL_law := lwc_37 _ (List.mem_of_getElem? (i := 23) rfl)
theorem lwc_38 : ∀ w ∈ wsL_law_r38, w ∈ wsL_law := fun _ h => List.mem_append_left _ (List.mem_append_left _ (List.mem_append_left _ (List.mem_append_left _ (List.mem_append_left _ (List.mem_append_left _ (List.mem_append_left _ (List.mem_append_left _ (List.mem_append_left _ (List.mem_append_left _ (List.mem_append_right _ (List.mem_append_right _ (List.mem_append_right _ (List.mem_append_right _ (List.mem_append_right _ (List.mem_append_right _ (List.mem_append_right _ (List.mem_append_right _ (List.mem_append_right _ (List.mem_append_right _ (List.mem_append_right _ (List.mem_append_right _ (List.mem_append_right _ (List.mem_append_right _ (List.mem_append_right _ (List.mem_append_right _ (List.mem_append_right _ (List.mem_append_right _ (List.mem_append_right _ (List.mem_append_right _ (List.mem_append_right _ (List.mem_append_right _ (List.mem_append_right _ (List.mem_append_right _ (List.mem_append_right _ (List.mem_append_right _ (List.mem_append_right _ (List.mem_append_right _ (List.mem_append_right _ (List.mem_append_right _ (List.mem_append_right _ (List.mem_append_right _ (List.mem_append_right _ (List.mem_append_right _ (List.mem_append_right _ (List.mem_append_right _ (List.mem_append_right _ (List.mem_append_left _ h)))))))))))))))))))))))))))))))))))))))))))))))
theorem q888 : Cond.instanceMethod yX4_allReadings ∈ wsL_law := lwc_38 _ (List.mem_of_getElem? (i := 0) rfl)
theorem q889 : Cond.selects RX4 yX4_allReadings yX4_allReadings ∈ wsL_law := lwc_38 _ (List.mem_of_getElem? (i := 1) rfl)
theorem q890 : Cond.code yX4_allReadings cX4_allReadings 3 (some .int) ∈ wsL_law := lwc_38 _ (List.mem_of_getElem? (i := 2) rfl)
theorem q891 : Cond.fieldLink RX4 71 "OhmBridge$Sensor" "readings" "I" ∈ wsL_law := lwc_38 _ (List.mem_of_getElem? (i := 3) rfl)
theorem q892 : Cond.methodLink RL 125 yX8_count ∈ wsL_law := lwc_38 _ (List.mem_of_getElem? (i := 4) rfl)
theorem q893 : Cond.instanceMethod yX8_count ∈ wsL_law := lwc_38 _ (List.mem_of_getElem? (i := 5) rfl)
theorem q894 : Cond.selects RX8 yX8_count yX8_count ∈ wsL_law := lwc_38 _ (List.mem_of_getElem? (i := 6) rfl)
theorem q895 : Cond.code yX8_count cX8_count 6 (some .int) ∈ wsL_law := lwc_38 _ (List.mem_of_getElem? (i := 7) rfl)
theorem q896 : Cond.fieldLink RX8 204 "OhmBridgeModel" "typed" "I" ∈ wsL_law := lwc_38 _ (List.mem_of_getElem? (i := 8) rfl)
theorem q897 : Cond.methodLink RL 126 yX7_undo ∈ wsL_law := lwc_38 _ (List.mem_of_getElem? (i := 9) rfl)
theorem q898 : Cond.instanceMethod yX7_undo ∈ wsL_law := lwc_38 _ (List.mem_of_getElem? (i := 10) rfl)
theorem q899 : Cond.selects RX7 yX7_undo yX7_undo ∈ wsL_law := lwc_38 _ (List.mem_of_getElem? (i := 11) rfl)
theorem q900 : Cond.code yX7_undo cX7_undo 1 (some .int) ∈ wsL_law := lwc_38 _ (List.mem_of_getElem? (i := 12) rfl)
theorem q901 : Cond.methodLink RX7 379 yX0_restore ∈ wsL_law := lwc_38 _ (List.mem_of_getElem? (i := 13) rfl)
theorem q902 : Cond.instanceMethod yX0_restore ∈ wsL_law := lwc_38 _ (List.mem_of_getElem? (i := 14) rfl)
theorem q903 : Cond.selects RX0 yX0_restore yX0_restore ∈ wsL_law := lwc_38 _ (List.mem_of_getElem? (i := 15) rfl)
theorem q904 : Cond.code yX0_restore cX0_restore 2 none ∈ wsL_law := lwc_38 _ (List.mem_of_getElem? (i := 16) rfl)
theorem q905 : Cond.methodLink RL 129 yX8_undo ∈ wsL_law := lwc_38 _ (List.mem_of_getElem? (i := 17) rfl)
theorem q906 : Cond.instanceMethod yX8_undo ∈ wsL_law := lwc_38 _ (List.mem_of_getElem? (i := 18) rfl)
theorem q907 : Cond.selects RX8 yX8_undo yX8_undo ∈ wsL_law := lwc_38 _ (List.mem_of_getElem? (i := 19) rfl)
theorem q908 : Cond.code yX8_undo cX8_undo 2 (some .int) ∈ wsL_law := lwc_38 _ (List.mem_of_getElem? (i := 20) rfl)
theorem q909 : Cond.methodLink RL 130 yX7_type ∈ wsL_law := lwc_38 _ (List.mem_of_getElem? (i := 21) rfl)
theorem q910 : Cond.instanceMethod yX7_type ∈ wsL_law := lwc_38 _ (List.mem_of_getElem? (i := 22) rfl)
theorem q911 : Cond.selects RX7 yX7_type yX7_type ∈ wsL_law := lwc_38 _ (List.mem_of_getElem? (i := 23) rfl)
theorem lwc_39 : ∀ w ∈ wsL_law_r39, w ∈ wsL_law := fun _ h => List.mem_append_left _ (List.mem_append_left _ (List.mem_append_left _ (List.mem_append_left _ (List.mem_append_left _ (List.mem_append_left _ (List.mem_append_left _ (List.mem_append_left _ (List.mem_append_left _ (List.mem_append_left _ (List.mem_append_right _ (List.mem_append_right _ (List.mem_append_right _ (List.mem_append_right _ (List.mem_append_right _ (List.mem_append_right _ (List.mem_append_right _ (List.mem_append_right _ (List.mem_append_right _ (List.mem_append_right _ (List.mem_append_right _ (List.mem_append_right _ (List.mem_append_right _ (List.mem_append_right _ (List.mem_append_right _ (List.mem_append_right _ (List.mem_append_right _ (List.mem_append_right _ (List.mem_append_right _ (List.mem_append_right _ (List.mem_append_right _ (List.mem_append_right _ (List.mem_append_right _ (List.mem_append_right _ (List.mem_append_right _ (List.mem_append_right _ (List.mem_append_right _ (List.mem_append_right _ (List.mem_append_right _ (List.mem_append_right _ (List.mem_append_right _ (List.mem_append_right _ (List.mem_append_right _ (List.mem_append_right _ (List.mem_append_right _ (List.mem_append_right _ (List.mem_append_right _ (List.mem_append_right _ (List.mem_append_left _ h))))))))))))))))))))))))))))))))))))))))))))))))
theorem q912 : Cond.code yX7_type cX7_type 2 (some .int) ∈ wsL_law := lwc_39 _ (List.mem_of_getElem? (i := 0) rfl)
theorem q913 : Cond.constantLong RX7 382 (32) ∈ wsL_law := lwc_39 _ (List.mem_of_getElem? (i := 1) rfl)
theorem q914 : Cond.constantLong RX7 384 (126) ∈ wsL_law := lwc_39 _ (List.mem_of_getElem? (i := 2) rfl)
theorem q915 : Cond.methodLink RX7 386 yX6_append ∈ wsL_law := lwc_39 _ (List.mem_of_getElem? (i := 3) rfl)
theorem q916 : Cond.instanceMethod yX6_append ∈ wsL_law := lwc_39 _ (List.mem_of_getElem? (i := 4) rfl)
theorem q917 : Cond.selects RX6 yX6_append yX6_append ∈ wsL_law := lwc_39 _ (List.mem_of_getElem? (i := 5) rfl)
theorem q918 : Cond.code yX6_append cX6_append 2 none ∈ wsL_law := lwc_39 _ (List.mem_of_getElem? (i := 6) rfl)
theorem q919 : Cond.fieldLink RX6 15 "OhmBridge$Text" "length" "I" ∈ wsL_law := lwc_39 _ (List.mem_of_getElem? (i := 7) rfl)
theorem q920 : Cond.methodLink RL 133 yX8_type ∈ wsL_law := lwc_39 _ (List.mem_of_getElem? (i := 8) rfl)
theorem q921 : Cond.instanceMethod yX8_type ∈ wsL_law := lwc_39 _ (List.mem_of_getElem? (i := 9) rfl)
theorem q922 : Cond.selects RX8 yX8_type yX8_type ∈ wsL_law := lwc_39 _ (List.mem_of_getElem? (i := 10) rfl)
theorem q923 : Cond.code yX8_type cX8_type 2 (some .int) ∈ wsL_law := lwc_39 _ (List.mem_of_getElem? (i := 11) rfl)
theorem q924 : Cond.methodLink RL 134 yX7_clearText ∈ wsL_law := lwc_39 _ (List.mem_of_getElem? (i := 12) rfl)
theorem q925 : Cond.instanceMethod yX7_clearText ∈ wsL_law := lwc_39 _ (List.mem_of_getElem? (i := 13) rfl)
theorem q926 : Cond.selects RX7 yX7_clearText yX7_clearText ∈ wsL_law := lwc_39 _ (List.mem_of_getElem? (i := 14) rfl)
theorem q927 : Cond.code yX7_clearText cX7_clearText 2 (some .int) ∈ wsL_law := lwc_39 _ (List.mem_of_getElem? (i := 15) rfl)
theorem q928 : Cond.methodLink RL 137 yX8_clearText ∈ wsL_law := lwc_39 _ (List.mem_of_getElem? (i := 16) rfl)
theorem q929 : Cond.instanceMethod yX8_clearText ∈ wsL_law := lwc_39 _ (List.mem_of_getElem? (i := 17) rfl)
theorem q930 : Cond.selects RX8 yX8_clearText yX8_clearText ∈ wsL_law := lwc_39 _ (List.mem_of_getElem? (i := 18) rfl)
theorem q931 : Cond.code yX8_clearText cX8_clearText 2 (some .int) ∈ wsL_law := lwc_39 _ (List.mem_of_getElem? (i := 19) rfl)
theorem q932 : Cond.methodLink RL 138 yX7_fault ∈ wsL_law := lwc_39 _ (List.mem_of_getElem? (i := 20) rfl)
theorem q933 : Cond.instanceMethod yX7_fault ∈ wsL_law := lwc_39 _ (List.mem_of_getElem? (i := 21) rfl)
theorem q934 : Cond.selects RX7 yX7_fault yX7_fault ∈ wsL_law := lwc_39 _ (List.mem_of_getElem? (i := 22) rfl)
theorem q935 : Cond.code yX7_fault cX7_fault 2 (some .int) ∈ wsL_law := lwc_39 _ (List.mem_of_getElem? (i := 23) rfl)
theorem lwc_40 : ∀ w ∈ wsL_law_r40, w ∈ wsL_law := fun _ h => List.mem_append_left _ (List.mem_append_left _ (List.mem_append_left _ (List.mem_append_left _ (List.mem_append_left _ (List.mem_append_left _ (List.mem_append_left _ (List.mem_append_left _ (List.mem_append_left _ (List.mem_append_left _ (List.mem_append_right _ (List.mem_append_right _ (List.mem_append_right _ (List.mem_append_right _ (List.mem_append_right _ (List.mem_append_right _ (List.mem_append_right _ (List.mem_append_right _ (List.mem_append_right _ (List.mem_append_right _ (List.mem_append_right _ (List.mem_append_right _ (List.mem_append_right _ (List.mem_append_right _ (List.mem_append_right _ (List.mem_append_right _ (List.mem_append_right _ (List.mem_append_right _ (List.mem_append_right _ (List.mem_append_right _ (List.mem_append_right _ (List.mem_append_right _ (List.mem_append_right _ (List.mem_append_right _ (List.mem_append_right _ (List.mem_append_right _ (List.mem_append_right _ (List.mem_append_right _ (List.mem_append_right _ (List.mem_append_right _ (List.mem_append_right _ (List.mem_append_right _ (List.mem_append_right _ (List.mem_append_right _ (List.mem_append_right _ (List.mem_append_right _ (List.mem_append_right _ (List.mem_append_right _ (List.mem_append_right _ (List.mem_append_left _ h)))))))))))))))))))))))))))))))))))))))))))))))))
theorem q936 : Cond.fieldLink RX7 392 "OhmBridge" "faultReason" "I" ∈ wsL_law := lwc_40 _ (List.mem_of_getElem? (i := 0) rfl)
theorem q937 : Cond.fieldLink RX7 395 "OhmBridge" "faultPlace" "I" ∈ wsL_law := lwc_40 _ (List.mem_of_getElem? (i := 1) rfl)
theorem q938 : Cond.methodLink RX7 389 yX7_tryOrders ∈ wsL_law := lwc_40 _ (List.mem_of_getElem? (i := 2) rfl)
theorem q939 : Cond.instanceMethod yX7_tryOrders ∈ wsL_law := lwc_40 _ (List.mem_of_getElem? (i := 3) rfl)
theorem q940 : Cond.selects RX7 yX7_tryOrders yX7_tryOrders ∈ wsL_law := lwc_40 _ (List.mem_of_getElem? (i := 4) rfl)
theorem q941 : Cond.code yX7_tryOrders cX7_tryOrders 2 none ∈ wsL_law := lwc_40 _ (List.mem_of_getElem? (i := 5) rfl)
theorem q942 : Cond.fieldLink RX7 401 "OhmBridge" "ordersDone" "I" ∈ wsL_law := lwc_40 _ (List.mem_of_getElem? (i := 6) rfl)
theorem q943 : Cond.fieldLink RX7 410 "OhmBridge$Text" "next" "I" ∈ wsL_law := lwc_40 _ (List.mem_of_getElem? (i := 7) rfl)
theorem q944 : Cond.methodLink RX7 398 yX4_copy ∈ wsL_law := lwc_40 _ (List.mem_of_getElem? (i := 8) rfl)
theorem q945 : Cond.methodLink RX7 404 yX6_parse ∈ wsL_law := lwc_40 _ (List.mem_of_getElem? (i := 9) rfl)
theorem q946 : Cond.instanceMethod yX6_parse ∈ wsL_law := lwc_40 _ (List.mem_of_getElem? (i := 10) rfl)
theorem q947 : Cond.selects RX6 yX6_parse yX6_parse ∈ wsL_law := lwc_40 _ (List.mem_of_getElem? (i := 11) rfl)
theorem q948 : Cond.code yX6_parse cX6_parse 2 (some .boolean) ∈ wsL_law := lwc_40 _ (List.mem_of_getElem? (i := 12) rfl)
theorem q949 : Cond.fieldLink RX6 23 "OhmBridge$Text" "order" "C" ∈ wsL_law := lwc_40 _ (List.mem_of_getElem? (i := 13) rfl)
theorem q950 : Cond.fieldLink RX6 27 "OhmBridge$Text" "next" "I" ∈ wsL_law := lwc_40 _ (List.mem_of_getElem? (i := 14) rfl)
theorem q951 : Cond.fieldLink RX6 38 "OhmBridge$Text" "sensor" "I" ∈ wsL_law := lwc_40 _ (List.mem_of_getElem? (i := 15) rfl)
theorem q952 : Cond.methodLink RX6 19 yX6_characterAt ∈ wsL_law := lwc_40 _ (List.mem_of_getElem? (i := 16) rfl)
theorem q953 : Cond.instanceMethod yX6_characterAt ∈ wsL_law := lwc_40 _ (List.mem_of_getElem? (i := 17) rfl)
theorem q954 : Cond.selects RX6 yX6_characterAt yX6_characterAt ∈ wsL_law := lwc_40 _ (List.mem_of_getElem? (i := 18) rfl)
theorem q955 : Cond.code yX6_characterAt cX6_characterAt 3 (some .char) ∈ wsL_law := lwc_40 _ (List.mem_of_getElem? (i := 19) rfl)
theorem q956 : Cond.methodLink RX6 30 yX6_takes ∈ wsL_law := lwc_40 _ (List.mem_of_getElem? (i := 20) rfl)
theorem q957 : Cond.instanceMethod yX6_takes ∈ wsL_law := lwc_40 _ (List.mem_of_getElem? (i := 21) rfl)
theorem q958 : Cond.selects RX6 yX6_takes yX6_takes ∈ wsL_law := lwc_40 _ (List.mem_of_getElem? (i := 22) rfl)
theorem q959 : Cond.code yX6_takes cX6_takes 2 (some .boolean) ∈ wsL_law := lwc_40 _ (List.mem_of_getElem? (i := 23) rfl)
theorem lwc_41 : ∀ w ∈ wsL_law_r41, w ∈ wsL_law := fun _ h => List.mem_append_left _ (List.mem_append_left _ (List.mem_append_left _ (List.mem_append_left _ (List.mem_append_left _ (List.mem_append_left _ (List.mem_append_left _ (List.mem_append_left _ (List.mem_append_left _ (List.mem_append_left _ (List.mem_append_right _ (List.mem_append_right _ (List.mem_append_right _ (List.mem_append_right _ (List.mem_append_right _ (List.mem_append_right _ (List.mem_append_right _ (List.mem_append_right _ (List.mem_append_right _ (List.mem_append_right _ (List.mem_append_right _ (List.mem_append_right _ (List.mem_append_right _ (List.mem_append_right _ (List.mem_append_right _ (List.mem_append_right _ (List.mem_append_right _ (List.mem_append_right _ (List.mem_append_right _ (List.mem_append_right _ (List.mem_append_right _ (List.mem_append_right _ (List.mem_append_right _ (List.mem_append_right _ (List.mem_append_right _ (List.mem_append_right _ (List.mem_append_right _ (List.mem_append_right _ (List.mem_append_right _ (List.mem_append_right _ (List.mem_append_right _ (List.mem_append_right _ (List.mem_append_right _ (List.mem_append_right _ (List.mem_append_right _ (List.mem_append_right _ (List.mem_append_right _ (List.mem_append_right _ (List.mem_append_right _ (List.mem_append_right _ (List.mem_append_left _ h))))))))))))))))))))))))))))))))))))))))))))))))))
theorem q960 : Cond.methodLink RX6 34 yX6_parsedDigits ∈ wsL_law := lwc_41 _ (List.mem_of_getElem? (i := 0) rfl)
theorem q961 : Cond.instanceMethod yX6_parsedDigits ∈ wsL_law := lwc_41 _ (List.mem_of_getElem? (i := 1) rfl)
theorem q962 : Cond.selects RX6 yX6_parsedDigits yX6_parsedDigits ∈ wsL_law := lwc_41 _ (List.mem_of_getElem? (i := 2) rfl)
theorem q963 : Cond.code yX6_parsedDigits cX6_parsedDigits 3 (some .int) ∈ wsL_law := lwc_41 _ (List.mem_of_getElem? (i := 3) rfl)
theorem q964 : Cond.methodLink RX6 41 yX6_parsesNumber ∈ wsL_law := lwc_41 _ (List.mem_of_getElem? (i := 4) rfl)
theorem q965 : Cond.instanceMethod yX6_parsesNumber ∈ wsL_law := lwc_41 _ (List.mem_of_getElem? (i := 5) rfl)
theorem q966 : Cond.selects RX6 yX6_parsesNumber yX6_parsesNumber ∈ wsL_law := lwc_41 _ (List.mem_of_getElem? (i := 6) rfl)
theorem q967 : Cond.code yX6_parsesNumber cX6_parsesNumber 3 (some .boolean) ∈ wsL_law := lwc_41 _ (List.mem_of_getElem? (i := 7) rfl)
theorem q968 : Cond.fieldLink RX6 45 "OhmBridge$Text" "number" "I" ∈ wsL_law := lwc_41 _ (List.mem_of_getElem? (i := 8) rfl)
theorem q969 : Cond.methodLink RX7 407 yX7_obey ∈ wsL_law := lwc_41 _ (List.mem_of_getElem? (i := 9) rfl)
theorem q970 : Cond.instanceMethod yX7_obey ∈ wsL_law := lwc_41 _ (List.mem_of_getElem? (i := 10) rfl)
theorem q971 : Cond.selects RX7 yX7_obey yX7_obey ∈ wsL_law := lwc_41 _ (List.mem_of_getElem? (i := 11) rfl)
theorem q972 : Cond.code yX7_obey cX7_obey 3 (some .int) ∈ wsL_law := lwc_41 _ (List.mem_of_getElem? (i := 12) rfl)
theorem q973 : Cond.fieldLink RX7 413 "OhmBridge$Text" "order" "C" ∈ wsL_law := lwc_41 _ (List.mem_of_getElem? (i := 13) rfl)
theorem q974 : Cond.fieldLink RX7 417 "OhmBridge$Text" "sensor" "I" ∈ wsL_law := lwc_41 _ (List.mem_of_getElem? (i := 14) rfl)
theorem q975 : Cond.methodLink RX7 420 yX7_obeyBath ∈ wsL_law := lwc_41 _ (List.mem_of_getElem? (i := 15) rfl)
theorem q976 : Cond.instanceMethod yX7_obeyBath ∈ wsL_law := lwc_41 _ (List.mem_of_getElem? (i := 16) rfl)
theorem q977 : Cond.selects RX7 yX7_obeyBath yX7_obeyBath ∈ wsL_law := lwc_41 _ (List.mem_of_getElem? (i := 17) rfl)
theorem q978 : Cond.code yX7_obeyBath cX7_obeyBath 2 (some .int) ∈ wsL_law := lwc_41 _ (List.mem_of_getElem? (i := 18) rfl)
theorem q979 : Cond.fieldLink RX7 427 "OhmBridge$Text" "number" "I" ∈ wsL_law := lwc_41 _ (List.mem_of_getElem? (i := 19) rfl)
theorem q980 : Cond.methodLink RX7 424 yX7_obeyCut ∈ wsL_law := lwc_41 _ (List.mem_of_getElem? (i := 20) rfl)
theorem q981 : Cond.instanceMethod yX7_obeyCut ∈ wsL_law := lwc_41 _ (List.mem_of_getElem? (i := 21) rfl)
theorem q982 : Cond.selects RX7 yX7_obeyCut yX7_obeyCut ∈ wsL_law := lwc_41 _ (List.mem_of_getElem? (i := 22) rfl)
theorem q983 : Cond.code yX7_obeyCut cX7_obeyCut 2 (some .int) ∈ wsL_law := lwc_41 _ (List.mem_of_getElem? (i := 23) rfl)
theorem lwc_42 : ∀ w ∈ wsL_law_r42, w ∈ wsL_law := fun _ h => List.mem_append_left _ (List.mem_append_left _ (List.mem_append_left _ (List.mem_append_left _ (List.mem_append_left _ (List.mem_append_left _ (List.mem_append_left _ (List.mem_append_left _ (List.mem_append_left _ (List.mem_append_left _ (List.mem_append_right _ (List.mem_append_right _ (List.mem_append_right _ (List.mem_append_right _ (List.mem_append_right _ (List.mem_append_right _ (List.mem_append_right _ (List.mem_append_right _ (List.mem_append_right _ (List.mem_append_right _ (List.mem_append_right _ (List.mem_append_right _ (List.mem_append_right _ (List.mem_append_right _ (List.mem_append_right _ (List.mem_append_right _ (List.mem_append_right _ (List.mem_append_right _ (List.mem_append_right _ (List.mem_append_right _ (List.mem_append_right _ (List.mem_append_right _ (List.mem_append_right _ (List.mem_append_right _ (List.mem_append_right _ (List.mem_append_right _ (List.mem_append_right _ (List.mem_append_right _ (List.mem_append_right _ (List.mem_append_right _ (List.mem_append_right _ (List.mem_append_right _ (List.mem_append_right _ (List.mem_append_right _ (List.mem_append_right _ (List.mem_append_right _ (List.mem_append_right _ (List.mem_append_right _ (List.mem_append_right _ (List.mem_append_right _ (List.mem_append_right _ (List.mem_append_left _ h)))))))))))))))))))))))))))))))))))))))))))))))))))
theorem q984 : Cond.methodLink RL 141 yX8_fault ∈ wsL_law := lwc_42 _ (List.mem_of_getElem? (i := 0) rfl)
theorem q985 : Cond.instanceMethod yX8_fault ∈ wsL_law := lwc_42 _ (List.mem_of_getElem? (i := 1) rfl)
theorem q986 : Cond.selects RX8 yX8_fault yX8_fault ∈ wsL_law := lwc_42 _ (List.mem_of_getElem? (i := 2) rfl)
theorem q987 : Cond.code yX8_fault cX8_fault 3 (some .int) ∈ wsL_law := lwc_42 _ (List.mem_of_getElem? (i := 3) rfl)
theorem q988 : Cond.fieldLink RX8 227 "OhmBridgeModel" "reason" "I" ∈ wsL_law := lwc_42 _ (List.mem_of_getElem? (i := 4) rfl)
theorem q989 : Cond.methodLink RX8 230 yX8_faulty ∈ wsL_law := lwc_42 _ (List.mem_of_getElem? (i := 5) rfl)
theorem q990 : Cond.instanceMethod yX8_faulty ∈ wsL_law := lwc_42 _ (List.mem_of_getElem? (i := 6) rfl)
theorem q991 : Cond.selects RX8 yX8_faulty yX8_faulty ∈ wsL_law := lwc_42 _ (List.mem_of_getElem? (i := 7) rfl)
theorem q992 : Cond.code yX8_faulty cX8_faulty 3 (some .int) ∈ wsL_law := lwc_42 _ (List.mem_of_getElem? (i := 8) rfl)
theorem q993 : Cond.fieldLink RX8 207 "OhmBridgeModel" "at" "I" ∈ wsL_law := lwc_42 _ (List.mem_of_getElem? (i := 9) rfl)
theorem q994 : Cond.methodLink RX8 224 yX8_doesNext ∈ wsL_law := lwc_42 _ (List.mem_of_getElem? (i := 10) rfl)
theorem q995 : Cond.instanceMethod yX8_doesNext ∈ wsL_law := lwc_42 _ (List.mem_of_getElem? (i := 11) rfl)
theorem q996 : Cond.selects RX8 yX8_doesNext yX8_doesNext ∈ wsL_law := lwc_42 _ (List.mem_of_getElem? (i := 12) rfl)
theorem q997 : Cond.code yX8_doesNext cX8_doesNext 3 (some .int) ∈ wsL_law := lwc_42 _ (List.mem_of_getElem? (i := 13) rfl)
theorem q998 : Cond.methodLink RX8 217 yX8_readsForm ∈ wsL_law := lwc_42 _ (List.mem_of_getElem? (i := 14) rfl)
theorem q999 : Cond.instanceMethod yX8_readsForm ∈ wsL_law := lwc_42 _ (List.mem_of_getElem? (i := 15) rfl)
theorem q1000 : Cond.selects RX8 yX8_readsForm yX8_readsForm ∈ wsL_law := lwc_42 _ (List.mem_of_getElem? (i := 16) rfl)
theorem q1001 : Cond.code yX8_readsForm cX8_readsForm 4 (some .boolean) ∈ wsL_law := lwc_42 _ (List.mem_of_getElem? (i := 17) rfl)
theorem q1002 : Cond.methodLink RX8 210 yX8_takes ∈ wsL_law := lwc_42 _ (List.mem_of_getElem? (i := 18) rfl)
theorem q1003 : Cond.instanceMethod yX8_takes ∈ wsL_law := lwc_42 _ (List.mem_of_getElem? (i := 19) rfl)
theorem q1004 : Cond.selects RX8 yX8_takes yX8_takes ∈ wsL_law := lwc_42 _ (List.mem_of_getElem? (i := 20) rfl)
theorem q1005 : Cond.code yX8_takes cX8_takes 3 (some .boolean) ∈ wsL_law := lwc_42 _ (List.mem_of_getElem? (i := 21) rfl)
theorem q1006 : Cond.methodLink RX8 213 yX8_passes ∈ wsL_law := lwc_42 _ (List.mem_of_getElem? (i := 22) rfl)
theorem q1007 : Cond.instanceMethod yX8_passes ∈ wsL_law := lwc_42 _ (List.mem_of_getElem? (i := 23) rfl)
theorem lwc_43 : ∀ w ∈ wsL_law_r43, w ∈ wsL_law := fun _ h => List.mem_append_left _ (List.mem_append_left _ (List.mem_append_left _ (List.mem_append_left _ (List.mem_append_left _ (List.mem_append_left _ (List.mem_append_left _ (List.mem_append_left _ (List.mem_append_left _ (List.mem_append_left _ (List.mem_append_right _ (List.mem_append_right _ (List.mem_append_right _ (List.mem_append_right _ (List.mem_append_right _ (List.mem_append_right _ (List.mem_append_right _ (List.mem_append_right _ (List.mem_append_right _ (List.mem_append_right _ (List.mem_append_right _ (List.mem_append_right _ (List.mem_append_right _ (List.mem_append_right _ (List.mem_append_right _ (List.mem_append_right _ (List.mem_append_right _ (List.mem_append_right _ (List.mem_append_right _ (List.mem_append_right _ (List.mem_append_right _ (List.mem_append_right _ (List.mem_append_right _ (List.mem_append_right _ (List.mem_append_right _ (List.mem_append_right _ (List.mem_append_right _ (List.mem_append_right _ (List.mem_append_right _ (List.mem_append_right _ (List.mem_append_right _ (List.mem_append_right _ (List.mem_append_right _ (List.mem_append_right _ (List.mem_append_right _ (List.mem_append_right _ (List.mem_append_right _ (List.mem_append_right _ (List.mem_append_right _ (List.mem_append_right _ (List.mem_append_right _ (List.mem_append_right _ (h))))))))))))))))))))))))))))))))))))))))))))))))))))
theorem q1008 : Cond.selects RX8 yX8_passes yX8_passes ∈ wsL_law := lwc_43 _ (List.mem_of_getElem? (i := 0) rfl)
theorem q1009 : Cond.code yX8_passes cX8_passes 3 (some .boolean) ∈ wsL_law := lwc_43 _ (List.mem_of_getElem? (i := 1) rfl)
theorem q1010 : Cond.methodLink RX8 220 yX8_does ∈ wsL_law := lwc_43 _ (List.mem_of_getElem? (i := 2) rfl)
theorem q1011 : Cond.instanceMethod yX8_does ∈ wsL_law := lwc_43 _ (List.mem_of_getElem? (i := 3) rfl)
theorem q1012 : Cond.selects RX8 yX8_does yX8_does ∈ wsL_law := lwc_43 _ (List.mem_of_getElem? (i := 4) rfl)
theorem q1013 : Cond.code yX8_does cX8_does 2 (some .int) ∈ wsL_law := lwc_43 _ (List.mem_of_getElem? (i := 5) rfl)
theorem q1014 : Cond.methodLink RL 142 yX7_play ∈ wsL_law := lwc_43 _ (List.mem_of_getElem? (i := 6) rfl)
theorem q1015 : Cond.instanceMethod yX7_play ∈ wsL_law := lwc_43 _ (List.mem_of_getElem? (i := 7) rfl)
theorem q1016 : Cond.selects RX7 yX7_play yX7_play ∈ wsL_law := lwc_43 _ (List.mem_of_getElem? (i := 8) rfl)
theorem q1017 : Cond.code yX7_play cX7_play 1 (some .int) ∈ wsL_law := lwc_43 _ (List.mem_of_getElem? (i := 9) rfl)
theorem q1018 : Cond.methodLink RL 145 yX8_play ∈ wsL_law := lwc_43 _ (List.mem_of_getElem? (i := 10) rfl)
theorem q1019 : Cond.instanceMethod yX8_play ∈ wsL_law := lwc_43 _ (List.mem_of_getElem? (i := 11) rfl)
theorem q1020 : Cond.selects RX8 yX8_play yX8_play ∈ wsL_law := lwc_43 _ (List.mem_of_getElem? (i := 12) rfl)
theorem q1021 : Cond.code yX8_play cX8_play 2 (some .int) ∈ wsL_law := lwc_43 _ (List.mem_of_getElem? (i := 13) rfl)
theorem wsL_good : wsL_law.all goodWord = true := by decide +kernel
theorem wsL_good1 : ∀ w ∈ wsL_law, w ∈ wsL_law ∧ ((w.onTables && w.keeps) = true ∨ ∃ ty, w = .arrayClass ty) := fun w h => ⟨h, good_of_word (List.all_eq_true.mp wsL_good w h)⟩
abbrev wsM (y : MethodName) (cc : ByteArray) (n : Nat) (r : Option FieldType) : List Cond := Cond.code y cc n r :: wsL_law
theorem wsM_good {y : MethodName} {cc : ByteArray} {n : Nat} {r : Option FieldType} (h : Cond.code y cc n r ∈ wsL_law) : GoodIn wsL_law (wsM y cc n r) := fun w hw => (List.mem_cons.mp hw).elim (fun e => e ▸ wsL_good1 _ h) (wsL_good1 w)
theorem gl_V {own C : String} {idx : Nat} {y : MethodName} {cc : ByteArray} {n : Nat} {r : Option FieldType} (h1 : Cond.methodLink own idx y ∈ wsL_law) (h2 : Cond.instanceMethod y ∈ wsL_law) (h3 : Cond.selects C y y ∈ wsL_law) (h4 : Cond.initialized C ∈ wsL_law) (h5 : Cond.code y cc n r ∈ wsL_law) : GoodIn wsL_law (wsV own idx C y (wsM y cc n r)) := goodIn_app (fun w hw => by
  simp only [List.mem_cons, List.not_mem_nil, or_false] at hw
  rcases hw with rfl | rfl | rfl | rfl
  · exact wsL_good1 _ h1
  · exact wsL_good1 _ h2
  · exact wsL_good1 _ h3
  · exact wsL_good1 _ h4) (wsM_good h5)
theorem gl_S {own : String} {idx : Nat} {y : MethodName} {cc : ByteArray} {n : Nat} {r : Option FieldType} (h1 : Cond.methodLink own idx y ∈ wsL_law) (h2 : Cond.static y ∈ wsL_law) (h4 : Cond.initialized y.cls ∈ wsL_law) (h5 : Cond.code y cc n r ∈ wsL_law) : GoodIn wsL_law (va_wsS own idx y (wsM y cc n r)) := goodIn_app (fun w hw => by
  simp only [List.mem_cons, List.not_mem_nil, or_false] at hw
  rcases hw with rfl | rfl | rfl
  · exact wsL_good1 _ h1
  · exact wsL_good1 _ h2
  · exact wsL_good1 _ h4) (wsM_good h5)
end
section
theorem dX0_init_0 : decode cX0_init 0 = .ok (.aload_n 0, 1) := by decide +kernel
theorem dX0_init_1 : decode cX0_init 1 = .ok (.invokespecial 3, 3) := by decide +kernel
theorem dX0_init_4 : decode cX0_init 4 = .ok (.aload_n 0, 1) := by decide +kernel
theorem dX0_init_5 : decode cX0_init 5 = .ok (.iconst 4, 1) := by decide +kernel
theorem dX0_init_6 : decode cX0_init 6 = .ok (.anewarray 9, 3) := by decide +kernel
theorem dX0_init_9 : decode cX0_init 9 = .ok (.putfield 11, 3) := by decide +kernel
theorem dX0_init_12 : decode cX0_init 12 = .ok (.iconst 0, 1) := by decide +kernel
theorem dX0_init_13 : decode cX0_init 13 = .ok (.istore_n 1, 1) := by decide +kernel
theorem dX0_init_14 : decode cX0_init 14 = .ok (.iload_n 1, 1) := by decide +kernel
theorem dX0_init_15 : decode cX0_init 15 = .ok (.iconst 4, 1) := by decide +kernel
theorem dX0_init_16 : decode cX0_init 16 = .ok (.if_icmp .ge 22, 3) := by decide +kernel
theorem dX0_init_19 : decode cX0_init 19 = .ok (.aload_n 0, 1) := by decide +kernel
theorem dX0_init_20 : decode cX0_init 20 = .ok (.getfield 11, 3) := by decide +kernel
theorem dX0_init_23 : decode cX0_init 23 = .ok (.iload_n 1, 1) := by decide +kernel
theorem dX0_init_24 : decode cX0_init 24 = .ok (.new 9, 3) := by decide +kernel
theorem dX0_init_27 : decode cX0_init 27 = .ok (.dup, 1) := by decide +kernel
theorem dX0_init_28 : decode cX0_init 28 = .ok (.invokespecial 17, 3) := by decide +kernel
theorem dX0_init_31 : decode cX0_init 31 = .ok (.aastore, 1) := by decide +kernel
theorem dX0_init_32 : decode cX0_init 32 = .ok (.iinc 1 1, 3) := by decide +kernel
theorem dX0_init_35 : decode cX0_init 35 = .ok (.goto (-21), 3) := by decide +kernel
theorem dX0_init_38 : decode cX0_init 38 = .ok (.return_, 1) := by decide +kernel
theorem dX0_record_0 : decode cX0_record 0 = .ok (.aload_n 0, 1) := by decide +kernel
theorem dX0_record_1 : decode cX0_record 1 = .ok (.getfield 18, 3) := by decide +kernel
theorem dX0_record_4 : decode cX0_record 4 = .ok (.aload_n 0, 1) := by decide +kernel
theorem dX0_record_5 : decode cX0_record 5 = .ok (.getfield 11, 3) := by decide +kernel
theorem dX0_record_8 : decode cX0_record 8 = .ok (.arraylength, 1) := by decide +kernel
theorem dX0_record_9 : decode cX0_record 9 = .ok (.if_icmp .lt 7, 3) := by decide +kernel
theorem dX0_record_12 : decode cX0_record 12 = .ok (.aload_n 0, 1) := by decide +kernel
theorem dX0_record_13 : decode cX0_record 13 = .ok (.invokevirtual 22, 3) := by decide +kernel
theorem dX0_record_16 : decode cX0_record 16 = .ok (.aload_n 0, 1) := by decide +kernel
theorem dX0_record_17 : decode cX0_record 17 = .ok (.getfield 18, 3) := by decide +kernel
theorem dX0_record_20 : decode cX0_record 20 = .ok (.ifCond .lt 38, 3) := by decide +kernel
theorem dX0_record_23 : decode cX0_record 23 = .ok (.aload_n 0, 1) := by decide +kernel
theorem dX0_record_24 : decode cX0_record 24 = .ok (.getfield 18, 3) := by decide +kernel
theorem dX0_record_27 : decode cX0_record 27 = .ok (.aload_n 0, 1) := by decide +kernel
theorem dX0_record_28 : decode cX0_record 28 = .ok (.getfield 11, 3) := by decide +kernel
theorem dX0_record_31 : decode cX0_record 31 = .ok (.arraylength, 1) := by decide +kernel
theorem dX0_record_32 : decode cX0_record 32 = .ok (.if_icmp .ge 26, 3) := by decide +kernel
theorem dX0_record_35 : decode cX0_record 35 = .ok (.aload_n 0, 1) := by decide +kernel
theorem dX0_record_36 : decode cX0_record 36 = .ok (.getfield 11, 3) := by decide +kernel
theorem dX0_record_39 : decode cX0_record 39 = .ok (.aload_n 0, 1) := by decide +kernel
theorem dX0_record_40 : decode cX0_record 40 = .ok (.getfield 18, 3) := by decide +kernel
theorem dX0_record_43 : decode cX0_record 43 = .ok (.aaload, 1) := by decide +kernel
theorem dX0_record_44 : decode cX0_record 44 = .ok (.aload_n 1, 1) := by decide +kernel
theorem dX0_record_45 : decode cX0_record 45 = .ok (.invokevirtual 25, 3) := by decide +kernel
theorem dX0_record_48 : decode cX0_record 48 = .ok (.aload_n 0, 1) := by decide +kernel
theorem dX0_record_49 : decode cX0_record 49 = .ok (.dup, 1) := by decide +kernel
theorem dX0_record_50 : decode cX0_record 50 = .ok (.getfield 18, 3) := by decide +kernel
theorem dX0_record_53 : decode cX0_record 53 = .ok (.iconst 1, 1) := by decide +kernel
theorem dX0_record_54 : decode cX0_record 54 = .ok (.iadd, 1) := by decide +kernel
theorem dX0_record_55 : decode cX0_record 55 = .ok (.putfield 18, 3) := by decide +kernel
theorem dX0_record_58 : decode cX0_record 58 = .ok (.return_, 1) := by decide +kernel
theorem dX0_restore_0 : decode cX0_restore 0 = .ok (.aload_n 0, 1) := by decide +kernel
theorem dX0_restore_1 : decode cX0_restore 1 = .ok (.getfield 18, 3) := by decide +kernel
theorem dX0_restore_4 : decode cX0_restore 4 = .ok (.ifCond .le 38, 3) := by decide +kernel
theorem dX0_restore_7 : decode cX0_restore 7 = .ok (.aload_n 0, 1) := by decide +kernel
theorem dX0_restore_8 : decode cX0_restore 8 = .ok (.getfield 18, 3) := by decide +kernel
theorem dX0_restore_11 : decode cX0_restore 11 = .ok (.aload_n 0, 1) := by decide +kernel
theorem dX0_restore_12 : decode cX0_restore 12 = .ok (.getfield 11, 3) := by decide +kernel
theorem dX0_restore_15 : decode cX0_restore 15 = .ok (.arraylength, 1) := by decide +kernel
theorem dX0_restore_16 : decode cX0_restore 16 = .ok (.if_icmp .gt 26, 3) := by decide +kernel
theorem dX0_restore_19 : decode cX0_restore 19 = .ok (.aload_n 0, 1) := by decide +kernel
theorem dX0_restore_20 : decode cX0_restore 20 = .ok (.dup, 1) := by decide +kernel
theorem dX0_restore_21 : decode cX0_restore 21 = .ok (.getfield 18, 3) := by decide +kernel
theorem dX0_restore_24 : decode cX0_restore 24 = .ok (.iconst 1, 1) := by decide +kernel
theorem dX0_restore_25 : decode cX0_restore 25 = .ok (.isub, 1) := by decide +kernel
theorem dX0_restore_26 : decode cX0_restore 26 = .ok (.putfield 18, 3) := by decide +kernel
theorem dX0_restore_29 : decode cX0_restore 29 = .ok (.aload_n 1, 1) := by decide +kernel
theorem dX0_restore_30 : decode cX0_restore 30 = .ok (.aload_n 0, 1) := by decide +kernel
theorem dX0_restore_31 : decode cX0_restore 31 = .ok (.getfield 11, 3) := by decide +kernel
theorem dX0_restore_34 : decode cX0_restore 34 = .ok (.aload_n 0, 1) := by decide +kernel
theorem dX0_restore_35 : decode cX0_restore 35 = .ok (.getfield 18, 3) := by decide +kernel
theorem dX0_restore_38 : decode cX0_restore 38 = .ok (.aaload, 1) := by decide +kernel
theorem dX0_restore_39 : decode cX0_restore 39 = .ok (.invokevirtual 25, 3) := by decide +kernel
theorem dX0_restore_42 : decode cX0_restore 42 = .ok (.return_, 1) := by decide +kernel
theorem dX0_dropOldest_0 : decode cX0_dropOldest 0 = .ok (.aload_n 0, 1) := by decide +kernel
theorem dX0_dropOldest_1 : decode cX0_dropOldest 1 = .ok (.getfield 11, 3) := by decide +kernel
theorem dX0_dropOldest_4 : decode cX0_dropOldest 4 = .ok (.iconst 0, 1) := by decide +kernel
theorem dX0_dropOldest_5 : decode cX0_dropOldest 5 = .ok (.aaload, 1) := by decide +kernel
theorem dX0_dropOldest_6 : decode cX0_dropOldest 6 = .ok (.astore_n 1, 1) := by decide +kernel
theorem dX0_dropOldest_7 : decode cX0_dropOldest 7 = .ok (.iconst 1, 1) := by decide +kernel
theorem dX0_dropOldest_8 : decode cX0_dropOldest 8 = .ok (.istore_n 2, 1) := by decide +kernel
theorem dX0_dropOldest_9 : decode cX0_dropOldest 9 = .ok (.iload_n 2, 1) := by decide +kernel
theorem dX0_dropOldest_10 : decode cX0_dropOldest 10 = .ok (.aload_n 0, 1) := by decide +kernel
theorem dX0_dropOldest_11 : decode cX0_dropOldest 11 = .ok (.getfield 11, 3) := by decide +kernel
theorem dX0_dropOldest_14 : decode cX0_dropOldest 14 = .ok (.arraylength, 1) := by decide +kernel
theorem dX0_dropOldest_15 : decode cX0_dropOldest 15 = .ok (.if_icmp .ge 23, 3) := by decide +kernel
theorem dX0_dropOldest_18 : decode cX0_dropOldest 18 = .ok (.aload_n 0, 1) := by decide +kernel
theorem dX0_dropOldest_19 : decode cX0_dropOldest 19 = .ok (.getfield 11, 3) := by decide +kernel
theorem dX0_dropOldest_22 : decode cX0_dropOldest 22 = .ok (.iload_n 2, 1) := by decide +kernel
theorem dX0_dropOldest_23 : decode cX0_dropOldest 23 = .ok (.iconst 1, 1) := by decide +kernel
theorem dX0_dropOldest_24 : decode cX0_dropOldest 24 = .ok (.isub, 1) := by decide +kernel
theorem dX0_dropOldest_25 : decode cX0_dropOldest 25 = .ok (.aload_n 0, 1) := by decide +kernel
theorem dX0_dropOldest_26 : decode cX0_dropOldest 26 = .ok (.getfield 11, 3) := by decide +kernel
theorem dX0_dropOldest_29 : decode cX0_dropOldest 29 = .ok (.iload_n 2, 1) := by decide +kernel
theorem dX0_dropOldest_30 : decode cX0_dropOldest 30 = .ok (.aaload, 1) := by decide +kernel
theorem dX0_dropOldest_31 : decode cX0_dropOldest 31 = .ok (.aastore, 1) := by decide +kernel
theorem dX0_dropOldest_32 : decode cX0_dropOldest 32 = .ok (.iinc 2 1, 3) := by decide +kernel
theorem dX0_dropOldest_35 : decode cX0_dropOldest 35 = .ok (.goto (-26), 3) := by decide +kernel
theorem dX0_dropOldest_38 : decode cX0_dropOldest 38 = .ok (.aload_n 0, 1) := by decide +kernel
theorem dX0_dropOldest_39 : decode cX0_dropOldest 39 = .ok (.getfield 11, 3) := by decide +kernel
theorem dX0_dropOldest_42 : decode cX0_dropOldest 42 = .ok (.aload_n 0, 1) := by decide +kernel
theorem dX0_dropOldest_43 : decode cX0_dropOldest 43 = .ok (.getfield 11, 3) := by decide +kernel
theorem dX0_dropOldest_46 : decode cX0_dropOldest 46 = .ok (.arraylength, 1) := by decide +kernel
theorem dX0_dropOldest_47 : decode cX0_dropOldest 47 = .ok (.iconst 1, 1) := by decide +kernel
theorem dX0_dropOldest_48 : decode cX0_dropOldest 48 = .ok (.isub, 1) := by decide +kernel
theorem dX0_dropOldest_49 : decode cX0_dropOldest 49 = .ok (.aload_n 1, 1) := by decide +kernel
theorem dX0_dropOldest_50 : decode cX0_dropOldest 50 = .ok (.aastore, 1) := by decide +kernel
theorem dX0_dropOldest_51 : decode cX0_dropOldest 51 = .ok (.aload_n 0, 1) := by decide +kernel
theorem dX0_dropOldest_52 : decode cX0_dropOldest 52 = .ok (.aload_n 0, 1) := by decide +kernel
theorem dX0_dropOldest_53 : decode cX0_dropOldest 53 = .ok (.getfield 11, 3) := by decide +kernel
theorem dX0_dropOldest_56 : decode cX0_dropOldest 56 = .ok (.arraylength, 1) := by decide +kernel
theorem dX0_dropOldest_57 : decode cX0_dropOldest 57 = .ok (.iconst 1, 1) := by decide +kernel
theorem dX0_dropOldest_58 : decode cX0_dropOldest 58 = .ok (.isub, 1) := by decide +kernel
theorem dX0_dropOldest_59 : decode cX0_dropOldest 59 = .ok (.putfield 18, 3) := by decide +kernel
theorem dX0_dropOldest_62 : decode cX0_dropOldest 62 = .ok (.return_, 1) := by decide +kernel
theorem dX1_init_0 : decode cX1_init 0 = .ok (.aload_n 0, 1) := by decide +kernel
theorem dX1_init_1 : decode cX1_init 1 = .ok (.invokespecial 3, 3) := by decide +kernel
theorem dX1_init_4 : decode cX1_init 4 = .ok (.return_, 1) := by decide +kernel
theorem dX1_take_0 : decode cX1_take 0 = .ok (.aload_n 0, 1) := by decide +kernel
theorem dX1_take_1 : decode cX1_take 1 = .ok (.iload_n 3, 1) := by decide +kernel
theorem dX1_take_2 : decode cX1_take 2 = .ok (.i2l, 1) := by decide +kernel
theorem dX1_take_3 : decode cX1_take 3 = .ok (.putfield 9, 3) := by decide +kernel
theorem dX1_take_6 : decode cX1_take 6 = .ok (.aload_n 0, 1) := by decide +kernel
theorem dX1_take_7 : decode cX1_take 7 = .ok (.aload_n 1, 1) := by decide +kernel
theorem dX1_take_8 : decode cX1_take 8 = .ok (.iconst 0, 1) := by decide +kernel
theorem dX1_take_9 : decode cX1_take 9 = .ok (.invokevirtual 15, 3) := by decide +kernel
theorem dX1_take_12 : decode cX1_take 12 = .ok (.i2l, 1) := by decide +kernel
theorem dX1_take_13 : decode cX1_take 13 = .ok (.putfield 21, 3) := by decide +kernel
theorem dX1_take_16 : decode cX1_take 16 = .ok (.aload_n 0, 1) := by decide +kernel
theorem dX1_take_17 : decode cX1_take 17 = .ok (.lconst 1, 1) := by decide +kernel
theorem dX1_take_18 : decode cX1_take 18 = .ok (.aload_n 1, 1) := by decide +kernel
theorem dX1_take_19 : decode cX1_take 19 = .ok (.iconst 3, 1) := by decide +kernel
theorem dX1_take_20 : decode cX1_take 20 = .ok (.invokevirtual 15, 3) := by decide +kernel
theorem dX1_take_23 : decode cX1_take 23 = .ok (.lshl, 1) := by decide +kernel
theorem dX1_take_24 : decode cX1_take 24 = .ok (.putfield 24, 3) := by decide +kernel
theorem dX1_take_27 : decode cX1_take 27 = .ok (.aload_n 0, 1) := by decide +kernel
theorem dX1_take_28 : decode cX1_take 28 = .ok (.aload_n 2, 1) := by decide +kernel
theorem dX1_take_29 : decode cX1_take 29 = .ok (.iconst 1, 1) := by decide +kernel
theorem dX1_take_30 : decode cX1_take 30 = .ok (.invokevirtual 27, 3) := by decide +kernel
theorem dX1_take_33 : decode cX1_take 33 = .ok (.i2l, 1) := by decide +kernel
theorem dX1_take_34 : decode cX1_take 34 = .ok (.putfield 32, 3) := by decide +kernel
theorem dX1_take_37 : decode cX1_take 37 = .ok (.aload_n 0, 1) := by decide +kernel
theorem dX1_take_38 : decode cX1_take 38 = .ok (.aload_n 0, 1) := by decide +kernel
theorem dX1_take_39 : decode cX1_take 39 = .ok (.aload_n 2, 1) := by decide +kernel
theorem dX1_take_40 : decode cX1_take 40 = .ok (.aload_n 1, 1) := by decide +kernel
theorem dX1_take_41 : decode cX1_take 41 = .ok (.aload_n 2, 1) := by decide +kernel
theorem dX1_take_42 : decode cX1_take 42 = .ok (.getfield 35, 3) := by decide +kernel
theorem dX1_take_45 : decode cX1_take 45 = .ok (.invokevirtual 39, 3) := by decide +kernel
theorem dX1_take_48 : decode cX1_take 48 = .ok (.invokevirtual 43, 3) := by decide +kernel
theorem dX1_take_51 : decode cX1_take 51 = .ok (.putfield 47, 3) := by decide +kernel
theorem dX1_take_54 : decode cX1_take 54 = .ok (.aload_n 2, 1) := by decide +kernel
theorem dX1_take_55 : decode cX1_take 55 = .ok (.getfield 50, 3) := by decide +kernel
theorem dX1_take_58 : decode cX1_take 58 = .ok (.iconst 4, 1) := by decide +kernel
theorem dX1_take_59 : decode cX1_take 59 = .ok (.if_icmp .ne 7, 3) := by decide +kernel
theorem dX1_take_62 : decode cX1_take 62 = .ok (.lconst 0, 1) := by decide +kernel
theorem dX1_take_63 : decode cX1_take 63 = .ok (.goto 15, 3) := by decide +kernel
theorem dX1_take_66 : decode cX1_take 66 = .ok (.aload_n 2, 1) := by decide +kernel
theorem dX1_take_67 : decode cX1_take 67 = .ok (.iconst 0, 1) := by decide +kernel
theorem dX1_take_68 : decode cX1_take 68 = .ok (.invokevirtual 53, 3) := by decide +kernel
theorem dX1_take_71 : decode cX1_take 71 = .ok (.aload_n 2, 1) := by decide +kernel
theorem dX1_take_72 : decode cX1_take 72 = .ok (.iconst 1, 1) := by decide +kernel
theorem dX1_take_73 : decode cX1_take 73 = .ok (.invokevirtual 53, 3) := by decide +kernel
theorem dX1_take_76 : decode cX1_take 76 = .ok (.iadd, 1) := by decide +kernel
theorem dX1_take_77 : decode cX1_take 77 = .ok (.i2l, 1) := by decide +kernel
theorem dX1_take_78 : decode cX1_take 78 = .ok (.lstore 4, 2) := by decide +kernel
theorem dX1_take_80 : decode cX1_take 80 = .ok (.aload_n 0, 1) := by decide +kernel
theorem dX1_take_81 : decode cX1_take 81 = .ok (.getfield 9, 3) := by decide +kernel
theorem dX1_take_84 : decode cX1_take 84 = .ok (.aload_n 0, 1) := by decide +kernel
theorem dX1_take_85 : decode cX1_take 85 = .ok (.getfield 47, 3) := by decide +kernel
theorem dX1_take_88 : decode cX1_take 88 = .ok (.lload 4, 2) := by decide +kernel
theorem dX1_take_90 : decode cX1_take 90 = .ok (.ladd, 1) := by decide +kernel
theorem dX1_take_91 : decode cX1_take 91 = .ok (.lmul, 1) := by decide +kernel
theorem dX1_take_92 : decode cX1_take 92 = .ok (.lstore 6, 2) := by decide +kernel
theorem dX1_take_94 : decode cX1_take 94 = .ok (.aload_n 0, 1) := by decide +kernel
theorem dX1_take_95 : decode cX1_take 95 = .ok (.aload_n 0, 1) := by decide +kernel
theorem dX1_take_96 : decode cX1_take 96 = .ok (.lload 6, 2) := by decide +kernel
theorem dX1_take_98 : decode cX1_take 98 = .ok (.aload_n 0, 1) := by decide +kernel
theorem dX1_take_99 : decode cX1_take 99 = .ok (.getfield 32, 3) := by decide +kernel
theorem dX1_take_102 : decode cX1_take 102 = .ok (.ladd, 1) := by decide +kernel
theorem dX1_take_103 : decode cX1_take 103 = .ok (.invokevirtual 56, 3) := by decide +kernel
theorem dX1_take_106 : decode cX1_take 106 = .ok (.putfield 60, 3) := by decide +kernel
theorem dX1_take_109 : decode cX1_take 109 = .ok (.aload_n 0, 1) := by decide +kernel
theorem dX1_take_110 : decode cX1_take 110 = .ok (.aload_n 0, 1) := by decide +kernel
theorem dX1_take_111 : decode cX1_take 111 = .ok (.lload 6, 2) := by decide +kernel
theorem dX1_take_113 : decode cX1_take 113 = .ok (.lneg, 1) := by decide +kernel
theorem dX1_take_114 : decode cX1_take 114 = .ok (.aload_n 0, 1) := by decide +kernel
theorem dX1_take_115 : decode cX1_take 115 = .ok (.getfield 32, 3) := by decide +kernel
theorem dX1_take_118 : decode cX1_take 118 = .ok (.ladd, 1) := by decide +kernel
theorem dX1_take_119 : decode cX1_take 119 = .ok (.invokevirtual 56, 3) := by decide +kernel
theorem dX1_take_122 : decode cX1_take 122 = .ok (.putfield 63, 3) := by decide +kernel
theorem dX1_take_125 : decode cX1_take 125 = .ok (.aload_n 0, 1) := by decide +kernel
theorem dX1_take_126 : decode cX1_take 126 = .ok (.getfield 9, 3) := by decide +kernel
theorem dX1_take_129 : decode cX1_take 129 = .ok (.aload_n 2, 1) := by decide +kernel
theorem dX1_take_130 : decode cX1_take 130 = .ok (.iconst 1, 1) := by decide +kernel
theorem dX1_take_131 : decode cX1_take 131 = .ok (.invokevirtual 53, 3) := by decide +kernel
theorem dX1_take_134 : decode cX1_take 134 = .ok (.aload_n 2, 1) := by decide +kernel
theorem dX1_take_135 : decode cX1_take 135 = .ok (.iconst 2, 1) := by decide +kernel
theorem dX1_take_136 : decode cX1_take 136 = .ok (.invokevirtual 53, 3) := by decide +kernel
theorem dX1_take_139 : decode cX1_take 139 = .ok (.iadd, 1) := by decide +kernel
theorem dX1_take_140 : decode cX1_take 140 = .ok (.i2l, 1) := by decide +kernel
theorem dX1_take_141 : decode cX1_take 141 = .ok (.lmul, 1) := by decide +kernel
theorem dX1_take_142 : decode cX1_take 142 = .ok (.lstore 8, 2) := by decide +kernel
theorem dX1_take_144 : decode cX1_take 144 = .ok (.aload_n 0, 1) := by decide +kernel
theorem dX1_take_145 : decode cX1_take 145 = .ok (.aload_n 0, 1) := by decide +kernel
theorem dX1_take_146 : decode cX1_take 146 = .ok (.lload 8, 2) := by decide +kernel
theorem dX1_take_148 : decode cX1_take 148 = .ok (.aload_n 0, 1) := by decide +kernel
theorem dX1_take_149 : decode cX1_take 149 = .ok (.getfield 32, 3) := by decide +kernel
theorem dX1_take_152 : decode cX1_take 152 = .ok (.ladd, 1) := by decide +kernel
theorem dX1_take_153 : decode cX1_take 153 = .ok (.invokevirtual 56, 3) := by decide +kernel
theorem dX1_take_156 : decode cX1_take 156 = .ok (.putfield 66, 3) := by decide +kernel
theorem dX1_take_159 : decode cX1_take 159 = .ok (.aload_n 0, 1) := by decide +kernel
theorem dX1_take_160 : decode cX1_take 160 = .ok (.aload_n 0, 1) := by decide +kernel
theorem dX1_take_161 : decode cX1_take 161 = .ok (.lload 8, 2) := by decide +kernel
theorem dX1_take_163 : decode cX1_take 163 = .ok (.lneg, 1) := by decide +kernel
theorem dX1_take_164 : decode cX1_take 164 = .ok (.aload_n 0, 1) := by decide +kernel
theorem dX1_take_165 : decode cX1_take 165 = .ok (.getfield 32, 3) := by decide +kernel
theorem dX1_take_168 : decode cX1_take 168 = .ok (.ladd, 1) := by decide +kernel
theorem dX1_take_169 : decode cX1_take 169 = .ok (.invokevirtual 56, 3) := by decide +kernel
theorem dX1_take_172 : decode cX1_take 172 = .ok (.putfield 69, 3) := by decide +kernel
theorem dX1_take_175 : decode cX1_take 175 = .ok (.aload_n 0, 1) := by decide +kernel
theorem dX1_take_176 : decode cX1_take 176 = .ok (.aload_n 0, 1) := by decide +kernel
theorem dX1_take_177 : decode cX1_take 177 = .ok (.aload_n 0, 1) := by decide +kernel
theorem dX1_take_178 : decode cX1_take 178 = .ok (.getfield 60, 3) := by decide +kernel
theorem dX1_take_181 : decode cX1_take 181 = .ok (.aload_n 0, 1) := by decide +kernel
theorem dX1_take_182 : decode cX1_take 182 = .ok (.getfield 63, 3) := by decide +kernel
theorem dX1_take_185 : decode cX1_take 185 = .ok (.lsub, 1) := by decide +kernel
theorem dX1_take_186 : decode cX1_take 186 = .ok (.ldc2_w 72, 3) := by decide +kernel
theorem dX1_take_189 : decode cX1_take 189 = .ok (.ldiv, 1) := by decide +kernel
theorem dX1_take_190 : decode cX1_take 190 = .ok (.invokevirtual 74, 3) := by decide +kernel
theorem dX1_take_193 : decode cX1_take 193 = .ok (.putfield 77, 3) := by decide +kernel
theorem dX1_take_196 : decode cX1_take 196 = .ok (.aload_n 0, 1) := by decide +kernel
theorem dX1_take_197 : decode cX1_take 197 = .ok (.aload_n 0, 1) := by decide +kernel
theorem dX1_take_198 : decode cX1_take 198 = .ok (.getfield 77, 3) := by decide +kernel
theorem dX1_take_201 : decode cX1_take 201 = .ok (.putfield 80, 3) := by decide +kernel
theorem dX1_take_204 : decode cX1_take 204 = .ok (.aload_n 2, 1) := by decide +kernel
theorem dX1_take_205 : decode cX1_take 205 = .ok (.invokevirtual 83, 3) := by decide +kernel
theorem dX1_take_208 : decode cX1_take 208 = .ok (.ifCond .eq 29, 3) := by decide +kernel
theorem dX1_take_211 : decode cX1_take 211 = .ok (.aload_n 0, 1) := by decide +kernel
theorem dX1_take_212 : decode cX1_take 212 = .ok (.dup, 1) := by decide +kernel
theorem dX1_take_213 : decode cX1_take 213 = .ok (.getfield 80, 3) := by decide +kernel
theorem dX1_take_216 : decode cX1_take 216 = .ok (.aload_n 0, 1) := by decide +kernel
theorem dX1_take_217 : decode cX1_take 217 = .ok (.aload_n 0, 1) := by decide +kernel
theorem dX1_take_218 : decode cX1_take 218 = .ok (.getfield 66, 3) := by decide +kernel
theorem dX1_take_221 : decode cX1_take 221 = .ok (.aload_n 0, 1) := by decide +kernel
theorem dX1_take_222 : decode cX1_take 222 = .ok (.getfield 69, 3) := by decide +kernel
theorem dX1_take_225 : decode cX1_take 225 = .ok (.lsub, 1) := by decide +kernel
theorem dX1_take_226 : decode cX1_take 226 = .ok (.ldc2_w 72, 3) := by decide +kernel
theorem dX1_take_229 : decode cX1_take 229 = .ok (.ldiv, 1) := by decide +kernel
theorem dX1_take_230 : decode cX1_take 230 = .ok (.invokevirtual 74, 3) := by decide +kernel
theorem dX1_take_233 : decode cX1_take 233 = .ok (.lsub, 1) := by decide +kernel
theorem dX1_take_234 : decode cX1_take 234 = .ok (.putfield 80, 3) := by decide +kernel
theorem dX1_take_237 : decode cX1_take 237 = .ok (.return_, 1) := by decide +kernel
theorem dX1_heatedOhms_0 : decode cX1_heatedOhms 0 = .ok (.aload_n 2, 1) := by decide +kernel
theorem dX1_heatedOhms_1 : decode cX1_heatedOhms 1 = .ok (.ifnull 12, 3) := by decide +kernel
theorem dX1_heatedOhms_4 : decode cX1_heatedOhms 4 = .ok (.aload_n 1, 1) := by decide +kernel
theorem dX1_heatedOhms_5 : decode cX1_heatedOhms 5 = .ok (.iconst 2, 1) := by decide +kernel
theorem dX1_heatedOhms_6 : decode cX1_heatedOhms 6 = .ok (.invokevirtual 27, 3) := by decide +kernel
theorem dX1_heatedOhms_9 : decode cX1_heatedOhms 9 = .ok (.iconst 1, 1) := by decide +kernel
theorem dX1_heatedOhms_10 : decode cX1_heatedOhms 10 = .ok (.if_icmp .ne 5, 3) := by decide +kernel
theorem dX1_heatedOhms_13 : decode cX1_heatedOhms 13 = .ok (.lconst 0, 1) := by decide +kernel
theorem dX1_heatedOhms_14 : decode cX1_heatedOhms 14 = .ok (.lreturn, 1) := by decide +kernel
theorem dX1_heatedOhms_15 : decode cX1_heatedOhms 15 = .ok (.aload_n 1, 1) := by decide +kernel
theorem dX1_heatedOhms_16 : decode cX1_heatedOhms 16 = .ok (.getfield 87, 3) := by decide +kernel
theorem dX1_heatedOhms_19 : decode cX1_heatedOhms 19 = .ok (.i2l, 1) := by decide +kernel
theorem dX1_heatedOhms_20 : decode cX1_heatedOhms 20 = .ok (.aload_n 2, 1) := by decide +kernel
theorem dX1_heatedOhms_21 : decode cX1_heatedOhms 21 = .ok (.aload_n 1, 1) := by decide +kernel
theorem dX1_heatedOhms_22 : decode cX1_heatedOhms 22 = .ok (.getfield 90, 3) := by decide +kernel
theorem dX1_heatedOhms_25 : decode cX1_heatedOhms 25 = .ok (.invokevirtual 93, 3) := by decide +kernel
theorem dX1_heatedOhms_28 : decode cX1_heatedOhms 28 = .ok (.i2l, 1) := by decide +kernel
theorem dX1_heatedOhms_29 : decode cX1_heatedOhms 29 = .ok (.lmul, 1) := by decide +kernel
theorem dX1_heatedOhms_30 : decode cX1_heatedOhms 30 = .ok (.ldc2_w 98, 3) := by decide +kernel
theorem dX1_heatedOhms_33 : decode cX1_heatedOhms 33 = .ok (.ldiv, 1) := by decide +kernel
theorem dX1_heatedOhms_34 : decode cX1_heatedOhms 34 = .ok (.lstore_n 3, 1) := by decide +kernel
theorem dX1_heatedOhms_35 : decode cX1_heatedOhms 35 = .ok (.aload_n 0, 1) := by decide +kernel
theorem dX1_heatedOhms_36 : decode cX1_heatedOhms 36 = .ok (.getfield 9, 3) := by decide +kernel
theorem dX1_heatedOhms_39 : decode cX1_heatedOhms 39 = .ok (.aload_n 0, 1) := by decide +kernel
theorem dX1_heatedOhms_40 : decode cX1_heatedOhms 40 = .ok (.getfield 9, 3) := by decide +kernel
theorem dX1_heatedOhms_43 : decode cX1_heatedOhms 43 = .ok (.lmul, 1) := by decide +kernel
theorem dX1_heatedOhms_44 : decode cX1_heatedOhms 44 = .ok (.lload_n 3, 1) := by decide +kernel
theorem dX1_heatedOhms_45 : decode cX1_heatedOhms 45 = .ok (.lmul, 1) := by decide +kernel
theorem dX1_heatedOhms_46 : decode cX1_heatedOhms 46 = .ok (.ldc2_w 98, 3) := by decide +kernel
theorem dX1_heatedOhms_49 : decode cX1_heatedOhms 49 = .ok (.ldiv, 1) := by decide +kernel
theorem dX1_heatedOhms_50 : decode cX1_heatedOhms 50 = .ok (.aload_n 1, 1) := by decide +kernel
theorem dX1_heatedOhms_51 : decode cX1_heatedOhms 51 = .ok (.iconst 0, 1) := by decide +kernel
theorem dX1_heatedOhms_52 : decode cX1_heatedOhms 52 = .ok (.invokevirtual 27, 3) := by decide +kernel
theorem dX1_heatedOhms_55 : decode cX1_heatedOhms 55 = .ok (.i2l, 1) := by decide +kernel
theorem dX1_heatedOhms_56 : decode cX1_heatedOhms 56 = .ok (.lmul, 1) := by decide +kernel
theorem dX1_heatedOhms_57 : decode cX1_heatedOhms 57 = .ok (.ldc2_w 98, 3) := by decide +kernel
theorem dX1_heatedOhms_60 : decode cX1_heatedOhms 60 = .ok (.ldiv, 1) := by decide +kernel
theorem dX1_heatedOhms_61 : decode cX1_heatedOhms 61 = .ok (.lstore 5, 2) := by decide +kernel
theorem dX1_heatedOhms_63 : decode cX1_heatedOhms 63 = .ok (.aload_n 1, 1) := by decide +kernel
theorem dX1_heatedOhms_64 : decode cX1_heatedOhms 64 = .ok (.getfield 90, 3) := by decide +kernel
theorem dX1_heatedOhms_67 : decode cX1_heatedOhms 67 = .ok (.i2l, 1) := by decide +kernel
theorem dX1_heatedOhms_68 : decode cX1_heatedOhms 68 = .ok (.lload 5, 2) := by decide +kernel
theorem dX1_heatedOhms_70 : decode cX1_heatedOhms 70 = .ok (.ladd, 1) := by decide +kernel
theorem dX1_heatedOhms_71 : decode cX1_heatedOhms 71 = .ok (.aload_n 2, 1) := by decide +kernel
theorem dX1_heatedOhms_72 : decode cX1_heatedOhms 72 = .ok (.aload_n 2, 1) := by decide +kernel
theorem dX1_heatedOhms_73 : decode cX1_heatedOhms 73 = .ok (.getfield 100, 3) := by decide +kernel
theorem dX1_heatedOhms_76 : decode cX1_heatedOhms 76 = .ok (.iconst 1, 1) := by decide +kernel
theorem dX1_heatedOhms_77 : decode cX1_heatedOhms 77 = .ok (.isub, 1) := by decide +kernel
theorem dX1_heatedOhms_78 : decode cX1_heatedOhms 78 = .ok (.invokevirtual 103, 3) := by decide +kernel
theorem dX1_heatedOhms_81 : decode cX1_heatedOhms 81 = .ok (.i2l, 1) := by decide +kernel
theorem dX1_heatedOhms_82 : decode cX1_heatedOhms 82 = .ok (.invokestatic 106, 3) := by decide +kernel
theorem dX1_heatedOhms_85 : decode cX1_heatedOhms 85 = .ok (.lstore 7, 2) := by decide +kernel
theorem dX1_heatedOhms_87 : decode cX1_heatedOhms 87 = .ok (.aload_n 1, 1) := by decide +kernel
theorem dX1_heatedOhms_88 : decode cX1_heatedOhms 88 = .ok (.getfield 87, 3) := by decide +kernel
theorem dX1_heatedOhms_91 : decode cX1_heatedOhms 91 = .ok (.i2l, 1) := by decide +kernel
theorem dX1_heatedOhms_92 : decode cX1_heatedOhms 92 = .ok (.aload_n 2, 1) := by decide +kernel
theorem dX1_heatedOhms_93 : decode cX1_heatedOhms 93 = .ok (.lload 7, 2) := by decide +kernel
theorem dX1_heatedOhms_95 : decode cX1_heatedOhms 95 = .ok (.l2i, 1) := by decide +kernel
theorem dX1_heatedOhms_96 : decode cX1_heatedOhms 96 = .ok (.invokevirtual 93, 3) := by decide +kernel
theorem dX1_heatedOhms_99 : decode cX1_heatedOhms 99 = .ok (.i2l, 1) := by decide +kernel
theorem dX1_heatedOhms_100 : decode cX1_heatedOhms 100 = .ok (.lmul, 1) := by decide +kernel
theorem dX1_heatedOhms_101 : decode cX1_heatedOhms 101 = .ok (.ldc2_w 98, 3) := by decide +kernel
theorem dX1_heatedOhms_104 : decode cX1_heatedOhms 104 = .ok (.ldiv, 1) := by decide +kernel
theorem dX1_heatedOhms_105 : decode cX1_heatedOhms 105 = .ok (.lreturn, 1) := by decide +kernel
theorem dX1_greatest_0 : decode cX1_greatest 0 = .ok (.ldc2_w 112, 3) := by decide +kernel
theorem dX1_greatest_3 : decode cX1_greatest 3 = .ok (.aload_n 0, 1) := by decide +kernel
theorem dX1_greatest_4 : decode cX1_greatest 4 = .ok (.getfield 24, 3) := by decide +kernel
theorem dX1_greatest_7 : decode cX1_greatest 7 = .ok (.lmul, 1) := by decide +kernel
theorem dX1_greatest_8 : decode cX1_greatest 8 = .ok (.lreturn, 1) := by decide +kernel
theorem dX1_countsOf_0 : decode cX1_countsOf 0 = .ok (.aload_n 0, 1) := by decide +kernel
theorem dX1_countsOf_1 : decode cX1_countsOf 1 = .ok (.getfield 9, 3) := by decide +kernel
theorem dX1_countsOf_4 : decode cX1_countsOf 4 = .ok (.aload_n 0, 1) := by decide +kernel
theorem dX1_countsOf_5 : decode cX1_countsOf 5 = .ok (.getfield 21, 3) := by decide +kernel
theorem dX1_countsOf_8 : decode cX1_countsOf 8 = .ok (.lmul, 1) := by decide +kernel
theorem dX1_countsOf_9 : decode cX1_countsOf 9 = .ok (.lstore_n 3, 1) := by decide +kernel
theorem dX1_countsOf_10 : decode cX1_countsOf 10 = .ok (.lload_n 3, 1) := by decide +kernel
theorem dX1_countsOf_11 : decode cX1_countsOf 11 = .ok (.lconst 0, 1) := by decide +kernel
theorem dX1_countsOf_12 : decode cX1_countsOf 12 = .ok (.lcmp, 1) := by decide +kernel
theorem dX1_countsOf_13 : decode cX1_countsOf 13 = .ok (.ifCond .gt 5, 3) := by decide +kernel
theorem dX1_countsOf_16 : decode cX1_countsOf 16 = .ok (.lconst 0, 1) := by decide +kernel
theorem dX1_countsOf_17 : decode cX1_countsOf 17 = .ok (.lreturn, 1) := by decide +kernel
theorem dX1_countsOf_18 : decode cX1_countsOf 18 = .ok (.lload_n 1, 1) := by decide +kernel
theorem dX1_countsOf_19 : decode cX1_countsOf 19 = .ok (.aload_n 0, 1) := by decide +kernel
theorem dX1_countsOf_20 : decode cX1_countsOf 20 = .ok (.getfield 24, 3) := by decide +kernel
theorem dX1_countsOf_23 : decode cX1_countsOf 23 = .ok (.lmul, 1) := by decide +kernel
theorem dX1_countsOf_24 : decode cX1_countsOf 24 = .ok (.lload_n 3, 1) := by decide +kernel
theorem dX1_countsOf_25 : decode cX1_countsOf 25 = .ok (.ldiv, 1) := by decide +kernel
theorem dX1_countsOf_26 : decode cX1_countsOf 26 = .ok (.lstore 5, 2) := by decide +kernel
theorem dX1_countsOf_28 : decode cX1_countsOf 28 = .ok (.aload_n 0, 1) := by decide +kernel
theorem dX1_countsOf_29 : decode cX1_countsOf 29 = .ok (.invokevirtual 114, 3) := by decide +kernel
theorem dX1_countsOf_32 : decode cX1_countsOf 32 = .ok (.lneg, 1) := by decide +kernel
theorem dX1_countsOf_33 : decode cX1_countsOf 33 = .ok (.aload_n 0, 1) := by decide +kernel
theorem dX1_countsOf_34 : decode cX1_countsOf 34 = .ok (.invokevirtual 114, 3) := by decide +kernel
theorem dX1_countsOf_37 : decode cX1_countsOf 37 = .ok (.lload 5, 2) := by decide +kernel
theorem dX1_countsOf_39 : decode cX1_countsOf 39 = .ok (.invokestatic 106, 3) := by decide +kernel
theorem dX1_countsOf_42 : decode cX1_countsOf 42 = .ok (.invokestatic 118, 3) := by decide +kernel
theorem dX1_countsOf_45 : decode cX1_countsOf 45 = .ok (.lreturn, 1) := by decide +kernel
theorem dX1_ohmsBy_0 : decode cX1_ohmsBy 0 = .ok (.aload_n 0, 1) := by decide +kernel
theorem dX1_ohmsBy_1 : decode cX1_ohmsBy 1 = .ok (.getfield 24, 3) := by decide +kernel
theorem dX1_ohmsBy_4 : decode cX1_ohmsBy 4 = .ok (.lconst 0, 1) := by decide +kernel
theorem dX1_ohmsBy_5 : decode cX1_ohmsBy 5 = .ok (.lcmp, 1) := by decide +kernel
theorem dX1_ohmsBy_6 : decode cX1_ohmsBy 6 = .ok (.ifCond .gt 7, 3) := by decide +kernel
theorem dX1_ohmsBy_9 : decode cX1_ohmsBy 9 = .ok (.lconst 0, 1) := by decide +kernel
theorem dX1_ohmsBy_10 : decode cX1_ohmsBy 10 = .ok (.goto 14, 3) := by decide +kernel
theorem dX1_ohmsBy_13 : decode cX1_ohmsBy 13 = .ok (.lload_n 1, 1) := by decide +kernel
theorem dX1_ohmsBy_14 : decode cX1_ohmsBy 14 = .ok (.aload_n 0, 1) := by decide +kernel
theorem dX1_ohmsBy_15 : decode cX1_ohmsBy 15 = .ok (.getfield 21, 3) := by decide +kernel
theorem dX1_ohmsBy_18 : decode cX1_ohmsBy 18 = .ok (.lmul, 1) := by decide +kernel
theorem dX1_ohmsBy_19 : decode cX1_ohmsBy 19 = .ok (.aload_n 0, 1) := by decide +kernel
theorem dX1_ohmsBy_20 : decode cX1_ohmsBy 20 = .ok (.getfield 24, 3) := by decide +kernel
theorem dX1_ohmsBy_23 : decode cX1_ohmsBy 23 = .ok (.ldiv, 1) := by decide +kernel
theorem dX1_ohmsBy_24 : decode cX1_ohmsBy 24 = .ok (.lreturn, 1) := by decide +kernel
theorem dX1_isAtBound_0 : decode cX1_isAtBound 0 = .ok (.aload_n 0, 1) := by decide +kernel
theorem dX1_isAtBound_1 : decode cX1_isAtBound 1 = .ok (.getfield 60, 3) := by decide +kernel
theorem dX1_isAtBound_4 : decode cX1_isAtBound 4 = .ok (.aload_n 0, 1) := by decide +kernel
theorem dX1_isAtBound_5 : decode cX1_isAtBound 5 = .ok (.invokevirtual 114, 3) := by decide +kernel
theorem dX1_isAtBound_8 : decode cX1_isAtBound 8 = .ok (.lcmp, 1) := by decide +kernel
theorem dX1_isAtBound_9 : decode cX1_isAtBound 9 = .ok (.ifCond .eq 41, 3) := by decide +kernel
theorem dX1_isAtBound_12 : decode cX1_isAtBound 12 = .ok (.aload_n 0, 1) := by decide +kernel
theorem dX1_isAtBound_13 : decode cX1_isAtBound 13 = .ok (.getfield 60, 3) := by decide +kernel
theorem dX1_isAtBound_16 : decode cX1_isAtBound 16 = .ok (.aload_n 0, 1) := by decide +kernel
theorem dX1_isAtBound_17 : decode cX1_isAtBound 17 = .ok (.invokevirtual 114, 3) := by decide +kernel
theorem dX1_isAtBound_20 : decode cX1_isAtBound 20 = .ok (.lneg, 1) := by decide +kernel
theorem dX1_isAtBound_21 : decode cX1_isAtBound 21 = .ok (.lcmp, 1) := by decide +kernel
theorem dX1_isAtBound_22 : decode cX1_isAtBound 22 = .ok (.ifCond .eq 28, 3) := by decide +kernel
theorem dX1_isAtBound_25 : decode cX1_isAtBound 25 = .ok (.aload_n 0, 1) := by decide +kernel
theorem dX1_isAtBound_26 : decode cX1_isAtBound 26 = .ok (.getfield 63, 3) := by decide +kernel
theorem dX1_isAtBound_29 : decode cX1_isAtBound 29 = .ok (.aload_n 0, 1) := by decide +kernel
theorem dX1_isAtBound_30 : decode cX1_isAtBound 30 = .ok (.invokevirtual 114, 3) := by decide +kernel
theorem dX1_isAtBound_33 : decode cX1_isAtBound 33 = .ok (.lcmp, 1) := by decide +kernel
theorem dX1_isAtBound_34 : decode cX1_isAtBound 34 = .ok (.ifCond .eq 16, 3) := by decide +kernel
theorem dX1_isAtBound_37 : decode cX1_isAtBound 37 = .ok (.aload_n 0, 1) := by decide +kernel
theorem dX1_isAtBound_38 : decode cX1_isAtBound 38 = .ok (.getfield 63, 3) := by decide +kernel
theorem dX1_isAtBound_41 : decode cX1_isAtBound 41 = .ok (.aload_n 0, 1) := by decide +kernel
theorem dX1_isAtBound_42 : decode cX1_isAtBound 42 = .ok (.invokevirtual 114, 3) := by decide +kernel
theorem dX1_isAtBound_45 : decode cX1_isAtBound 45 = .ok (.lneg, 1) := by decide +kernel
theorem dX1_isAtBound_46 : decode cX1_isAtBound 46 = .ok (.lcmp, 1) := by decide +kernel
theorem dX1_isAtBound_47 : decode cX1_isAtBound 47 = .ok (.ifCond .ne 7, 3) := by decide +kernel
theorem dX1_isAtBound_50 : decode cX1_isAtBound 50 = .ok (.iconst 1, 1) := by decide +kernel
theorem dX1_isAtBound_51 : decode cX1_isAtBound 51 = .ok (.goto 4, 3) := by decide +kernel
theorem dX1_isAtBound_54 : decode cX1_isAtBound 54 = .ok (.iconst 0, 1) := by decide +kernel
theorem dX1_isAtBound_55 : decode cX1_isAtBound 55 = .ok (.ireturn, 1) := by decide +kernel
theorem dX2_init_0 : decode cX2_init 0 = .ok (.aload_n 0, 1) := by decide +kernel
theorem dX2_init_1 : decode cX2_init 1 = .ok (.invokespecial 3, 3) := by decide +kernel
theorem dX2_init_4 : decode cX2_init 4 = .ok (.aload_n 0, 1) := by decide +kernel
theorem dX2_init_5 : decode cX2_init 5 = .ok (.new 9, 3) := by decide +kernel
theorem dX2_init_8 : decode cX2_init 8 = .ok (.dup, 1) := by decide +kernel
theorem dX2_init_9 : decode cX2_init 9 = .ok (.invokespecial 11, 3) := by decide +kernel
theorem dX2_init_12 : decode cX2_init 12 = .ok (.putfield 12, 3) := by decide +kernel
theorem dX2_init_15 : decode cX2_init 15 = .ok (.aload_n 0, 1) := by decide +kernel
theorem dX2_init_16 : decode cX2_init 16 = .ok (.new 9, 3) := by decide +kernel
theorem dX2_init_19 : decode cX2_init 19 = .ok (.dup, 1) := by decide +kernel
theorem dX2_init_20 : decode cX2_init 20 = .ok (.invokespecial 11, 3) := by decide +kernel
theorem dX2_init_23 : decode cX2_init 23 = .ok (.putfield 18, 3) := by decide +kernel
theorem dX2_init_26 : decode cX2_init 26 = .ok (.return_, 1) := by decide +kernel
theorem dX2_measure_0 : decode cX2_measure 0 = .ok (.aload_n 1, 1) := by decide +kernel
theorem dX2_measure_1 : decode cX2_measure 1 = .ok (.iconst 1, 1) := by decide +kernel
theorem dX2_measure_2 : decode cX2_measure 2 = .ok (.invokevirtual 21, 3) := by decide +kernel
theorem dX2_measure_5 : decode cX2_measure 5 = .ok (.i2l, 1) := by decide +kernel
theorem dX2_measure_6 : decode cX2_measure 6 = .ok (.lstore_n 3, 1) := by decide +kernel
theorem dX2_measure_7 : decode cX2_measure 7 = .ok (.aload_n 1, 1) := by decide +kernel
theorem dX2_measure_8 : decode cX2_measure 8 = .ok (.iconst 2, 1) := by decide +kernel
theorem dX2_measure_9 : decode cX2_measure 9 = .ok (.invokevirtual 21, 3) := by decide +kernel
theorem dX2_measure_12 : decode cX2_measure 12 = .ok (.i2l, 1) := by decide +kernel
theorem dX2_measure_13 : decode cX2_measure 13 = .ok (.lstore 5, 2) := by decide +kernel
theorem dX2_measure_15 : decode cX2_measure 15 = .ok (.aload_n 0, 1) := by decide +kernel
theorem dX2_measure_16 : decode cX2_measure 16 = .ok (.getfield 12, 3) := by decide +kernel
theorem dX2_measure_19 : decode cX2_measure 19 = .ok (.aload_n 1, 1) := by decide +kernel
theorem dX2_measure_20 : decode cX2_measure 20 = .ok (.aload_n 2, 1) := by decide +kernel
theorem dX2_measure_21 : decode cX2_measure 21 = .ok (.aload_n 1, 1) := by decide +kernel
theorem dX2_measure_22 : decode cX2_measure 22 = .ok (.iconst 1, 1) := by decide +kernel
theorem dX2_measure_23 : decode cX2_measure 23 = .ok (.invokevirtual 21, 3) := by decide +kernel
theorem dX2_measure_26 : decode cX2_measure 26 = .ok (.invokevirtual 27, 3) := by decide +kernel
theorem dX2_measure_29 : decode cX2_measure 29 = .ok (.aload_n 0, 1) := by decide +kernel
theorem dX2_measure_30 : decode cX2_measure 30 = .ok (.getfield 18, 3) := by decide +kernel
theorem dX2_measure_33 : decode cX2_measure 33 = .ok (.aload_n 1, 1) := by decide +kernel
theorem dX2_measure_34 : decode cX2_measure 34 = .ok (.aload_n 2, 1) := by decide +kernel
theorem dX2_measure_35 : decode cX2_measure 35 = .ok (.aload_n 1, 1) := by decide +kernel
theorem dX2_measure_36 : decode cX2_measure 36 = .ok (.iconst 2, 1) := by decide +kernel
theorem dX2_measure_37 : decode cX2_measure 37 = .ok (.invokevirtual 21, 3) := by decide +kernel
theorem dX2_measure_40 : decode cX2_measure 40 = .ok (.invokevirtual 27, 3) := by decide +kernel
theorem dX2_measure_43 : decode cX2_measure 43 = .ok (.aload_n 0, 1) := by decide +kernel
theorem dX2_measure_44 : decode cX2_measure 44 = .ok (.aload_n 0, 1) := by decide +kernel
theorem dX2_measure_45 : decode cX2_measure 45 = .ok (.lload_n 3, 1) := by decide +kernel
theorem dX2_measure_46 : decode cX2_measure 46 = .ok (.lload 5, 2) := by decide +kernel
theorem dX2_measure_48 : decode cX2_measure 48 = .ok (.invokevirtual 31, 3) := by decide +kernel
theorem dX2_measure_51 : decode cX2_measure 51 = .ok (.putfield 35, 3) := by decide +kernel
theorem dX2_measure_54 : decode cX2_measure 54 = .ok (.aload_n 0, 1) := by decide +kernel
theorem dX2_measure_55 : decode cX2_measure 55 = .ok (.aload_n 0, 1) := by decide +kernel
theorem dX2_measure_56 : decode cX2_measure 56 = .ok (.aload_n 1, 1) := by decide +kernel
theorem dX2_measure_57 : decode cX2_measure 57 = .ok (.aload_n 2, 1) := by decide +kernel
theorem dX2_measure_58 : decode cX2_measure 58 = .ok (.getfield 39, 3) := by decide +kernel
theorem dX2_measure_61 : decode cX2_measure 61 = .ok (.invokevirtual 45, 3) := by decide +kernel
theorem dX2_measure_64 : decode cX2_measure 64 = .ok (.aload_n 2, 1) := by decide +kernel
theorem dX2_measure_65 : decode cX2_measure 65 = .ok (.getfield 49, 3) := by decide +kernel
theorem dX2_measure_68 : decode cX2_measure 68 = .ok (.i2l, 1) := by decide +kernel
theorem dX2_measure_69 : decode cX2_measure 69 = .ok (.invokevirtual 52, 3) := by decide +kernel
theorem dX2_measure_72 : decode cX2_measure 72 = .ok (.putfield 56, 3) := by decide +kernel
theorem dX2_measure_75 : decode cX2_measure 75 = .ok (.aload_n 0, 1) := by decide +kernel
theorem dX2_measure_76 : decode cX2_measure 76 = .ok (.aload_n 0, 1) := by decide +kernel
theorem dX2_measure_77 : decode cX2_measure 77 = .ok (.aload_n 1, 1) := by decide +kernel
theorem dX2_measure_78 : decode cX2_measure 78 = .ok (.aload_n 2, 1) := by decide +kernel
theorem dX2_measure_79 : decode cX2_measure 79 = .ok (.invokevirtual 59, 3) := by decide +kernel
theorem dX2_measure_82 : decode cX2_measure 82 = .ok (.putfield 63, 3) := by decide +kernel
theorem dX2_measure_85 : decode cX2_measure 85 = .ok (.return_, 1) := by decide +kernel
theorem dX2_extrapolated_0 : decode cX2_extrapolated 0 = .ok (.aload_n 0, 1) := by decide +kernel
theorem dX2_extrapolated_1 : decode cX2_extrapolated 1 = .ok (.getfield 12, 3) := by decide +kernel
theorem dX2_extrapolated_4 : decode cX2_extrapolated 4 = .ok (.getfield 66, 3) := by decide +kernel
theorem dX2_extrapolated_7 : decode cX2_extrapolated 7 = .ok (.lstore 5, 2) := by decide +kernel
theorem dX2_extrapolated_9 : decode cX2_extrapolated 9 = .ok (.aload_n 0, 1) := by decide +kernel
theorem dX2_extrapolated_10 : decode cX2_extrapolated 10 = .ok (.getfield 18, 3) := by decide +kernel
theorem dX2_extrapolated_13 : decode cX2_extrapolated 13 = .ok (.getfield 66, 3) := by decide +kernel
theorem dX2_extrapolated_16 : decode cX2_extrapolated 16 = .ok (.lstore 7, 2) := by decide +kernel
theorem dX2_extrapolated_18 : decode cX2_extrapolated 18 = .ok (.lload_n 3, 1) := by decide +kernel
theorem dX2_extrapolated_19 : decode cX2_extrapolated 19 = .ok (.lload_n 3, 1) := by decide +kernel
theorem dX2_extrapolated_20 : decode cX2_extrapolated 20 = .ok (.lmul, 1) := by decide +kernel
theorem dX2_extrapolated_21 : decode cX2_extrapolated 21 = .ok (.lload_n 1, 1) := by decide +kernel
theorem dX2_extrapolated_22 : decode cX2_extrapolated 22 = .ok (.lload_n 1, 1) := by decide +kernel
theorem dX2_extrapolated_23 : decode cX2_extrapolated 23 = .ok (.lmul, 1) := by decide +kernel
theorem dX2_extrapolated_24 : decode cX2_extrapolated 24 = .ok (.lsub, 1) := by decide +kernel
theorem dX2_extrapolated_25 : decode cX2_extrapolated 25 = .ok (.lstore 9, 2) := by decide +kernel
theorem dX2_extrapolated_27 : decode cX2_extrapolated 27 = .ok (.lload 9, 2) := by decide +kernel
theorem dX2_extrapolated_29 : decode cX2_extrapolated 29 = .ok (.lconst 0, 1) := by decide +kernel
theorem dX2_extrapolated_30 : decode cX2_extrapolated 30 = .ok (.lcmp, 1) := by decide +kernel
theorem dX2_extrapolated_31 : decode cX2_extrapolated 31 = .ok (.ifCond .ne 6, 3) := by decide +kernel
theorem dX2_extrapolated_34 : decode cX2_extrapolated 34 = .ok (.lload 5, 2) := by decide +kernel
theorem dX2_extrapolated_36 : decode cX2_extrapolated 36 = .ok (.lreturn, 1) := by decide +kernel
theorem dX2_extrapolated_37 : decode cX2_extrapolated 37 = .ok (.lload 5, 2) := by decide +kernel
theorem dX2_extrapolated_39 : decode cX2_extrapolated 39 = .ok (.lload 7, 2) := by decide +kernel
theorem dX2_extrapolated_41 : decode cX2_extrapolated 41 = .ok (.lload 5, 2) := by decide +kernel
theorem dX2_extrapolated_43 : decode cX2_extrapolated 43 = .ok (.lsub, 1) := by decide +kernel
theorem dX2_extrapolated_44 : decode cX2_extrapolated 44 = .ok (.lload_n 1, 1) := by decide +kernel
theorem dX2_extrapolated_45 : decode cX2_extrapolated 45 = .ok (.lmul, 1) := by decide +kernel
theorem dX2_extrapolated_46 : decode cX2_extrapolated 46 = .ok (.lload_n 1, 1) := by decide +kernel
theorem dX2_extrapolated_47 : decode cX2_extrapolated 47 = .ok (.lmul, 1) := by decide +kernel
theorem dX2_extrapolated_48 : decode cX2_extrapolated 48 = .ok (.lload 9, 2) := by decide +kernel
theorem dX2_extrapolated_50 : decode cX2_extrapolated 50 = .ok (.ldiv, 1) := by decide +kernel
theorem dX2_extrapolated_51 : decode cX2_extrapolated 51 = .ok (.lsub, 1) := by decide +kernel
theorem dX2_extrapolated_52 : decode cX2_extrapolated 52 = .ok (.lstore 11, 2) := by decide +kernel
theorem dX2_extrapolated_54 : decode cX2_extrapolated 54 = .ok (.ldc2_w 69, 3) := by decide +kernel
theorem dX2_extrapolated_57 : decode cX2_extrapolated 57 = .ok (.ldc2_w 71, 3) := by decide +kernel
theorem dX2_extrapolated_60 : decode cX2_extrapolated 60 = .ok (.lload 11, 2) := by decide +kernel
theorem dX2_extrapolated_62 : decode cX2_extrapolated 62 = .ok (.invokestatic 73, 3) := by decide +kernel
theorem dX2_extrapolated_65 : decode cX2_extrapolated 65 = .ok (.invokestatic 78, 3) := by decide +kernel
theorem dX2_extrapolated_68 : decode cX2_extrapolated 68 = .ok (.lreturn, 1) := by decide +kernel
theorem dX2_readingOf_0 : decode cX2_readingOf 0 = .ok (.aload_n 1, 1) := by decide +kernel
theorem dX2_readingOf_1 : decode cX2_readingOf 1 = .ok (.ifnull 9, 3) := by decide +kernel
theorem dX2_readingOf_4 : decode cX2_readingOf 4 = .ok (.lload_n 2, 1) := by decide +kernel
theorem dX2_readingOf_5 : decode cX2_readingOf 5 = .ok (.lconst 0, 1) := by decide +kernel
theorem dX2_readingOf_6 : decode cX2_readingOf 6 = .ok (.lcmp, 1) := by decide +kernel
theorem dX2_readingOf_7 : decode cX2_readingOf 7 = .ok (.ifCond .gt 6, 3) := by decide +kernel
theorem dX2_readingOf_10 : decode cX2_readingOf 10 = .ok (.ldc 81, 2) := by decide +kernel
theorem dX2_readingOf_12 : decode cX2_readingOf 12 = .ok (.ireturn, 1) := by decide +kernel
theorem dX2_readingOf_13 : decode cX2_readingOf 13 = .ok (.aload_n 1, 1) := by decide +kernel
theorem dX2_readingOf_14 : decode cX2_readingOf 14 = .ok (.aload_n 0, 1) := by decide +kernel
theorem dX2_readingOf_15 : decode cX2_readingOf 15 = .ok (.getfield 35, 3) := by decide +kernel
theorem dX2_readingOf_18 : decode cX2_readingOf 18 = .ok (.ldc2_w 82, 3) := by decide +kernel
theorem dX2_readingOf_21 : decode cX2_readingOf 21 = .ok (.lmul, 1) := by decide +kernel
theorem dX2_readingOf_22 : decode cX2_readingOf 22 = .ok (.lload_n 2, 1) := by decide +kernel
theorem dX2_readingOf_23 : decode cX2_readingOf 23 = .ok (.ldiv, 1) := by decide +kernel
theorem dX2_readingOf_24 : decode cX2_readingOf 24 = .ok (.invokevirtual 84, 3) := by decide +kernel
theorem dX2_readingOf_27 : decode cX2_readingOf 27 = .ok (.ireturn, 1) := by decide +kernel
theorem dX2_diagnosisOf_0 : decode cX2_diagnosisOf 0 = .ok (.aload_n 2, 1) := by decide +kernel
theorem dX2_diagnosisOf_1 : decode cX2_diagnosisOf 1 = .ok (.invokevirtual 90, 3) := by decide +kernel
theorem dX2_diagnosisOf_4 : decode cX2_diagnosisOf 4 = .ok (.ifCond .ne 5, 3) := by decide +kernel
theorem dX2_diagnosisOf_7 : decode cX2_diagnosisOf 7 = .ok (.iconst 1, 1) := by decide +kernel
theorem dX2_diagnosisOf_8 : decode cX2_diagnosisOf 8 = .ok (.ireturn, 1) := by decide +kernel
theorem dX2_diagnosisOf_9 : decode cX2_diagnosisOf 9 = .ok (.aload_n 2, 1) := by decide +kernel
theorem dX2_diagnosisOf_10 : decode cX2_diagnosisOf 10 = .ok (.getfield 94, 3) := by decide +kernel
theorem dX2_diagnosisOf_13 : decode cX2_diagnosisOf 13 = .ok (.ifCond .eq 5, 3) := by decide +kernel
theorem dX2_diagnosisOf_16 : decode cX2_diagnosisOf 16 = .ok (.iconst 2, 1) := by decide +kernel
theorem dX2_diagnosisOf_17 : decode cX2_diagnosisOf 17 = .ok (.ireturn, 1) := by decide +kernel
theorem dX2_diagnosisOf_18 : decode cX2_diagnosisOf 18 = .ok (.aload_n 0, 1) := by decide +kernel
theorem dX2_diagnosisOf_19 : decode cX2_diagnosisOf 19 = .ok (.getfield 35, 3) := by decide +kernel
theorem dX2_diagnosisOf_22 : decode cX2_diagnosisOf 22 = .ok (.aload_n 2, 1) := by decide +kernel
theorem dX2_diagnosisOf_23 : decode cX2_diagnosisOf 23 = .ok (.getfield 49, 3) := by decide +kernel
theorem dX2_diagnosisOf_26 : decode cX2_diagnosisOf 26 = .ok (.bipush 10, 2) := by decide +kernel
theorem dX2_diagnosisOf_28 : decode cX2_diagnosisOf 28 = .ok (.idiv, 1) := by decide +kernel
theorem dX2_diagnosisOf_29 : decode cX2_diagnosisOf 29 = .ok (.i2l, 1) := by decide +kernel
theorem dX2_diagnosisOf_30 : decode cX2_diagnosisOf 30 = .ok (.lcmp, 1) := by decide +kernel
theorem dX2_diagnosisOf_31 : decode cX2_diagnosisOf 31 = .ok (.ifCond .ge 5, 3) := by decide +kernel
theorem dX2_diagnosisOf_34 : decode cX2_diagnosisOf 34 = .ok (.iconst 3, 1) := by decide +kernel
theorem dX2_diagnosisOf_35 : decode cX2_diagnosisOf 35 = .ok (.ireturn, 1) := by decide +kernel
theorem dX2_diagnosisOf_36 : decode cX2_diagnosisOf 36 = .ok (.aload_n 0, 1) := by decide +kernel
theorem dX2_diagnosisOf_37 : decode cX2_diagnosisOf 37 = .ok (.getfield 12, 3) := by decide +kernel
theorem dX2_diagnosisOf_40 : decode cX2_diagnosisOf 40 = .ok (.invokevirtual 97, 3) := by decide +kernel
theorem dX2_diagnosisOf_43 : decode cX2_diagnosisOf 43 = .ok (.ifCond .ne 13, 3) := by decide +kernel
theorem dX2_diagnosisOf_46 : decode cX2_diagnosisOf 46 = .ok (.aload_n 0, 1) := by decide +kernel
theorem dX2_diagnosisOf_47 : decode cX2_diagnosisOf 47 = .ok (.getfield 18, 3) := by decide +kernel
theorem dX2_diagnosisOf_50 : decode cX2_diagnosisOf 50 = .ok (.invokevirtual 97, 3) := by decide +kernel
theorem dX2_diagnosisOf_53 : decode cX2_diagnosisOf 53 = .ok (.ifCond .eq 5, 3) := by decide +kernel
theorem dX2_diagnosisOf_56 : decode cX2_diagnosisOf 56 = .ok (.iconst 4, 1) := by decide +kernel
theorem dX2_diagnosisOf_57 : decode cX2_diagnosisOf 57 = .ok (.ireturn, 1) := by decide +kernel
theorem dX2_diagnosisOf_58 : decode cX2_diagnosisOf 58 = .ok (.aload_n 2, 1) := by decide +kernel
theorem dX2_diagnosisOf_59 : decode cX2_diagnosisOf 59 = .ok (.iconst 0, 1) := by decide +kernel
theorem dX2_diagnosisOf_60 : decode cX2_diagnosisOf 60 = .ok (.invokevirtual 100, 3) := by decide +kernel
theorem dX2_diagnosisOf_63 : decode cX2_diagnosisOf 63 = .ok (.aload_n 2, 1) := by decide +kernel
theorem dX2_diagnosisOf_64 : decode cX2_diagnosisOf 64 = .ok (.iconst 1, 1) := by decide +kernel
theorem dX2_diagnosisOf_65 : decode cX2_diagnosisOf 65 = .ok (.invokevirtual 100, 3) := by decide +kernel
theorem dX2_diagnosisOf_68 : decode cX2_diagnosisOf 68 = .ok (.isub, 1) := by decide +kernel
theorem dX2_diagnosisOf_69 : decode cX2_diagnosisOf 69 = .ok (.invokestatic 103, 3) := by decide +kernel
theorem dX2_diagnosisOf_72 : decode cX2_diagnosisOf 72 = .ok (.istore_n 3, 1) := by decide +kernel
theorem dX2_diagnosisOf_73 : decode cX2_diagnosisOf 73 = .ok (.aload_n 2, 1) := by decide +kernel
theorem dX2_diagnosisOf_74 : decode cX2_diagnosisOf 74 = .ok (.invokevirtual 106, 3) := by decide +kernel
theorem dX2_diagnosisOf_77 : decode cX2_diagnosisOf 77 = .ok (.ifCond .eq 14, 3) := by decide +kernel
theorem dX2_diagnosisOf_80 : decode cX2_diagnosisOf 80 = .ok (.iload_n 3, 1) := by decide +kernel
theorem dX2_diagnosisOf_81 : decode cX2_diagnosisOf 81 = .ok (.aload_n 1, 1) := by decide +kernel
theorem dX2_diagnosisOf_82 : decode cX2_diagnosisOf 82 = .ok (.iconst 4, 1) := by decide +kernel
theorem dX2_diagnosisOf_83 : decode cX2_diagnosisOf 83 = .ok (.invokevirtual 21, 3) := by decide +kernel
theorem dX2_diagnosisOf_86 : decode cX2_diagnosisOf 86 = .ok (.if_icmp .le 5, 3) := by decide +kernel
theorem dX2_diagnosisOf_89 : decode cX2_diagnosisOf 89 = .ok (.iconst 5, 1) := by decide +kernel
theorem dX2_diagnosisOf_90 : decode cX2_diagnosisOf 90 = .ok (.ireturn, 1) := by decide +kernel
theorem dX2_diagnosisOf_91 : decode cX2_diagnosisOf 91 = .ok (.aload_n 2, 1) := by decide +kernel
theorem dX2_diagnosisOf_92 : decode cX2_diagnosisOf 92 = .ok (.iconst 1, 1) := by decide +kernel
theorem dX2_diagnosisOf_93 : decode cX2_diagnosisOf 93 = .ok (.invokevirtual 109, 3) := by decide +kernel
theorem dX2_diagnosisOf_96 : decode cX2_diagnosisOf 96 = .ok (.invokestatic 103, 3) := by decide +kernel
theorem dX2_diagnosisOf_99 : decode cX2_diagnosisOf 99 = .ok (.aload_n 1, 1) := by decide +kernel
theorem dX2_diagnosisOf_100 : decode cX2_diagnosisOf 100 = .ok (.iconst 5, 1) := by decide +kernel
theorem dX2_diagnosisOf_101 : decode cX2_diagnosisOf 101 = .ok (.invokevirtual 21, 3) := by decide +kernel
theorem dX2_diagnosisOf_104 : decode cX2_diagnosisOf 104 = .ok (.if_icmp .le 6, 3) := by decide +kernel
theorem dX2_diagnosisOf_107 : decode cX2_diagnosisOf 107 = .ok (.bipush 6, 2) := by decide +kernel
theorem dX2_diagnosisOf_109 : decode cX2_diagnosisOf 109 = .ok (.ireturn, 1) := by decide +kernel
theorem dX2_diagnosisOf_110 : decode cX2_diagnosisOf 110 = .ok (.aload_n 0, 1) := by decide +kernel
theorem dX2_diagnosisOf_111 : decode cX2_diagnosisOf 111 = .ok (.getfield 56, 3) := by decide +kernel
theorem dX2_diagnosisOf_114 : decode cX2_diagnosisOf 114 = .ok (.ldc 81, 2) := by decide +kernel
theorem dX2_diagnosisOf_116 : decode cX2_diagnosisOf 116 = .ok (.if_icmp .ne 8, 3) := by decide +kernel
theorem dX2_diagnosisOf_119 : decode cX2_diagnosisOf 119 = .ok (.bipush 7, 2) := by decide +kernel
theorem dX2_diagnosisOf_121 : decode cX2_diagnosisOf 121 = .ok (.goto 4, 3) := by decide +kernel
theorem dX2_diagnosisOf_124 : decode cX2_diagnosisOf 124 = .ok (.iconst 0, 1) := by decide +kernel
theorem dX2_diagnosisOf_125 : decode cX2_diagnosisOf 125 = .ok (.ireturn, 1) := by decide +kernel
theorem dX3_init_0 : decode cX3_init 0 = .ok (.aload_n 0, 1) := by decide +kernel
theorem dX3_init_1 : decode cX3_init 1 = .ok (.invokespecial 3, 3) := by decide +kernel
theorem dX3_init_4 : decode cX3_init 4 = .ok (.aload_n 0, 1) := by decide +kernel
theorem dX3_init_5 : decode cX3_init 5 = .ok (.iconst (-1), 1) := by decide +kernel
theorem dX3_init_6 : decode cX3_init 6 = .ok (.putfield 9, 3) := by decide +kernel
theorem dX3_init_9 : decode cX3_init 9 = .ok (.aload_n 0, 1) := by decide +kernel
theorem dX3_init_10 : decode cX3_init 10 = .ok (.iconst 4, 1) := by decide +kernel
theorem dX3_init_11 : decode cX3_init 11 = .ok (.newarray .int, 2) := by decide +kernel
theorem dX3_init_13 : decode cX3_init 13 = .ok (.putfield 15, 3) := by decide +kernel
theorem dX3_init_16 : decode cX3_init 16 = .ok (.aload_n 0, 1) := by decide +kernel
theorem dX3_init_17 : decode cX3_init 17 = .ok (.iconst 3, 1) := by decide +kernel
theorem dX3_init_18 : decode cX3_init 18 = .ok (.newarray .int, 2) := by decide +kernel
theorem dX3_init_20 : decode cX3_init 20 = .ok (.putfield 19, 3) := by decide +kernel
theorem dX3_init_23 : decode cX3_init 23 = .ok (.aload_n 0, 1) := by decide +kernel
theorem dX3_init_24 : decode cX3_init 24 = .ok (.bipush 9, 2) := by decide +kernel
theorem dX3_init_26 : decode cX3_init 26 = .ok (.newarray .int, 2) := by decide +kernel
theorem dX3_init_28 : decode cX3_init 28 = .ok (.putfield 22, 3) := by decide +kernel
theorem dX3_init_31 : decode cX3_init 31 = .ok (.return_, 1) := by decide +kernel
theorem dX3_begin_0 : decode cX3_begin 0 = .ok (.aload_n 0, 1) := by decide +kernel
theorem dX3_begin_1 : decode cX3_begin 1 = .ok (.iload_n 1, 1) := by decide +kernel
theorem dX3_begin_2 : decode cX3_begin 2 = .ok (.putfield 25, 3) := by decide +kernel
theorem dX3_begin_5 : decode cX3_begin 5 = .ok (.aload_n 0, 1) := by decide +kernel
theorem dX3_begin_6 : decode cX3_begin 6 = .ok (.iload_n 2, 1) := by decide +kernel
theorem dX3_begin_7 : decode cX3_begin 7 = .ok (.putfield 28, 3) := by decide +kernel
theorem dX3_begin_10 : decode cX3_begin 10 = .ok (.aload_n 0, 1) := by decide +kernel
theorem dX3_begin_11 : decode cX3_begin 11 = .ok (.iload_n 3, 1) := by decide +kernel
theorem dX3_begin_12 : decode cX3_begin 12 = .ok (.putfield 31, 3) := by decide +kernel
theorem dX3_begin_15 : decode cX3_begin 15 = .ok (.aload_n 0, 1) := by decide +kernel
theorem dX3_begin_16 : decode cX3_begin 16 = .ok (.iload_n 3, 1) := by decide +kernel
theorem dX3_begin_17 : decode cX3_begin 17 = .ok (.putfield 34, 3) := by decide +kernel
theorem dX3_begin_20 : decode cX3_begin 20 = .ok (.aload_n 0, 1) := by decide +kernel
theorem dX3_begin_21 : decode cX3_begin 21 = .ok (.iload 4, 2) := by decide +kernel
theorem dX3_begin_23 : decode cX3_begin 23 = .ok (.putfield 37, 3) := by decide +kernel
theorem dX3_begin_26 : decode cX3_begin 26 = .ok (.aload_n 0, 1) := by decide +kernel
theorem dX3_begin_27 : decode cX3_begin 27 = .ok (.ldc 40, 2) := by decide +kernel
theorem dX3_begin_29 : decode cX3_begin 29 = .ok (.ldc 41, 2) := by decide +kernel
theorem dX3_begin_31 : decode cX3_begin 31 = .ok (.iconst 0, 1) := by decide +kernel
theorem dX3_begin_32 : decode cX3_begin 32 = .ok (.invokevirtual 42, 3) := by decide +kernel
theorem dX3_begin_35 : decode cX3_begin 35 = .ok (.return_, 1) := by decide +kernel
theorem dX3_copy_0 : decode cX3_copy 0 = .ok (.aload_n 0, 1) := by decide +kernel
theorem dX3_copy_1 : decode cX3_copy 1 = .ok (.aload_n 1, 1) := by decide +kernel
theorem dX3_copy_2 : decode cX3_copy 2 = .ok (.getfield 25, 3) := by decide +kernel
theorem dX3_copy_5 : decode cX3_copy 5 = .ok (.putfield 25, 3) := by decide +kernel
theorem dX3_copy_8 : decode cX3_copy 8 = .ok (.aload_n 0, 1) := by decide +kernel
theorem dX3_copy_9 : decode cX3_copy 9 = .ok (.aload_n 1, 1) := by decide +kernel
theorem dX3_copy_10 : decode cX3_copy 10 = .ok (.getfield 28, 3) := by decide +kernel
theorem dX3_copy_13 : decode cX3_copy 13 = .ok (.putfield 28, 3) := by decide +kernel
theorem dX3_copy_16 : decode cX3_copy 16 = .ok (.aload_n 0, 1) := by decide +kernel
theorem dX3_copy_17 : decode cX3_copy 17 = .ok (.aload_n 1, 1) := by decide +kernel
theorem dX3_copy_18 : decode cX3_copy 18 = .ok (.getfield 31, 3) := by decide +kernel
theorem dX3_copy_21 : decode cX3_copy 21 = .ok (.putfield 31, 3) := by decide +kernel
theorem dX3_copy_24 : decode cX3_copy 24 = .ok (.aload_n 0, 1) := by decide +kernel
theorem dX3_copy_25 : decode cX3_copy 25 = .ok (.aload_n 1, 1) := by decide +kernel
theorem dX3_copy_26 : decode cX3_copy 26 = .ok (.getfield 34, 3) := by decide +kernel
theorem dX3_copy_29 : decode cX3_copy 29 = .ok (.putfield 34, 3) := by decide +kernel
theorem dX3_copy_32 : decode cX3_copy 32 = .ok (.aload_n 0, 1) := by decide +kernel
theorem dX3_copy_33 : decode cX3_copy 33 = .ok (.aload_n 1, 1) := by decide +kernel
theorem dX3_copy_34 : decode cX3_copy 34 = .ok (.getfield 37, 3) := by decide +kernel
theorem dX3_copy_37 : decode cX3_copy 37 = .ok (.putfield 37, 3) := by decide +kernel
theorem dX3_copy_40 : decode cX3_copy 40 = .ok (.aload_n 0, 1) := by decide +kernel
theorem dX3_copy_41 : decode cX3_copy 41 = .ok (.aload_n 1, 1) := by decide +kernel
theorem dX3_copy_42 : decode cX3_copy 42 = .ok (.getfield 46, 3) := by decide +kernel
theorem dX3_copy_45 : decode cX3_copy 45 = .ok (.putfield 46, 3) := by decide +kernel
theorem dX3_copy_48 : decode cX3_copy 48 = .ok (.aload_n 0, 1) := by decide +kernel
theorem dX3_copy_49 : decode cX3_copy 49 = .ok (.aload_n 1, 1) := by decide +kernel
theorem dX3_copy_50 : decode cX3_copy 50 = .ok (.getfield 9, 3) := by decide +kernel
theorem dX3_copy_53 : decode cX3_copy 53 = .ok (.putfield 9, 3) := by decide +kernel
theorem dX3_copy_56 : decode cX3_copy 56 = .ok (.aload_n 0, 1) := by decide +kernel
theorem dX3_copy_57 : decode cX3_copy 57 = .ok (.aload_n 1, 1) := by decide +kernel
theorem dX3_copy_58 : decode cX3_copy 58 = .ok (.getfield 49, 3) := by decide +kernel
theorem dX3_copy_61 : decode cX3_copy 61 = .ok (.putfield 49, 3) := by decide +kernel
theorem dX3_copy_64 : decode cX3_copy 64 = .ok (.aload_n 0, 1) := by decide +kernel
theorem dX3_copy_65 : decode cX3_copy 65 = .ok (.aload_n 1, 1) := by decide +kernel
theorem dX3_copy_66 : decode cX3_copy 66 = .ok (.getfield 52, 3) := by decide +kernel
theorem dX3_copy_69 : decode cX3_copy 69 = .ok (.putfield 52, 3) := by decide +kernel
theorem dX3_copy_72 : decode cX3_copy 72 = .ok (.aload_n 0, 1) := by decide +kernel
theorem dX3_copy_73 : decode cX3_copy 73 = .ok (.aload_n 1, 1) := by decide +kernel
theorem dX3_copy_74 : decode cX3_copy 74 = .ok (.getfield 55, 3) := by decide +kernel
theorem dX3_copy_77 : decode cX3_copy 77 = .ok (.putfield 55, 3) := by decide +kernel
theorem dX3_copy_80 : decode cX3_copy 80 = .ok (.aload_n 0, 1) := by decide +kernel
theorem dX3_copy_81 : decode cX3_copy 81 = .ok (.aload_n 1, 1) := by decide +kernel
theorem dX3_copy_82 : decode cX3_copy 82 = .ok (.getfield 58, 3) := by decide +kernel
theorem dX3_copy_85 : decode cX3_copy 85 = .ok (.putfield 58, 3) := by decide +kernel
theorem dX3_copy_88 : decode cX3_copy 88 = .ok (.aload_n 0, 1) := by decide +kernel
theorem dX3_copy_89 : decode cX3_copy 89 = .ok (.aload_n 1, 1) := by decide +kernel
theorem dX3_copy_90 : decode cX3_copy 90 = .ok (.getfield 61, 3) := by decide +kernel
theorem dX3_copy_93 : decode cX3_copy 93 = .ok (.putfield 61, 3) := by decide +kernel
theorem dX3_copy_96 : decode cX3_copy 96 = .ok (.aload_n 1, 1) := by decide +kernel
theorem dX3_copy_97 : decode cX3_copy 97 = .ok (.getfield 15, 3) := by decide +kernel
theorem dX3_copy_100 : decode cX3_copy 100 = .ok (.iconst 0, 1) := by decide +kernel
theorem dX3_copy_101 : decode cX3_copy 101 = .ok (.aload_n 0, 1) := by decide +kernel
theorem dX3_copy_102 : decode cX3_copy 102 = .ok (.getfield 15, 3) := by decide +kernel
theorem dX3_copy_105 : decode cX3_copy 105 = .ok (.iconst 0, 1) := by decide +kernel
theorem dX3_copy_106 : decode cX3_copy 106 = .ok (.iconst 4, 1) := by decide +kernel
theorem dX3_copy_107 : decode cX3_copy 107 = .ok (.invokestatic 64, 3) := by decide +kernel
theorem dX3_copy_110 : decode cX3_copy 110 = .ok (.aload_n 1, 1) := by decide +kernel
theorem dX3_copy_111 : decode cX3_copy 111 = .ok (.getfield 19, 3) := by decide +kernel
theorem dX3_copy_114 : decode cX3_copy 114 = .ok (.iconst 0, 1) := by decide +kernel
theorem dX3_copy_115 : decode cX3_copy 115 = .ok (.aload_n 0, 1) := by decide +kernel
theorem dX3_copy_116 : decode cX3_copy 116 = .ok (.getfield 19, 3) := by decide +kernel
theorem dX3_copy_119 : decode cX3_copy 119 = .ok (.iconst 0, 1) := by decide +kernel
theorem dX3_copy_120 : decode cX3_copy 120 = .ok (.iconst 3, 1) := by decide +kernel
theorem dX3_copy_121 : decode cX3_copy 121 = .ok (.invokestatic 64, 3) := by decide +kernel
theorem dX3_copy_124 : decode cX3_copy 124 = .ok (.aload_n 1, 1) := by decide +kernel
theorem dX3_copy_125 : decode cX3_copy 125 = .ok (.getfield 22, 3) := by decide +kernel
theorem dX3_copy_128 : decode cX3_copy 128 = .ok (.iconst 0, 1) := by decide +kernel
theorem dX3_copy_129 : decode cX3_copy 129 = .ok (.aload_n 0, 1) := by decide +kernel
theorem dX3_copy_130 : decode cX3_copy 130 = .ok (.getfield 22, 3) := by decide +kernel
theorem dX3_copy_133 : decode cX3_copy 133 = .ok (.iconst 0, 1) := by decide +kernel
theorem dX3_copy_134 : decode cX3_copy 134 = .ok (.bipush 9, 2) := by decide +kernel
theorem dX3_copy_136 : decode cX3_copy 136 = .ok (.invokestatic 64, 3) := by decide +kernel
theorem dX3_copy_139 : decode cX3_copy 139 = .ok (.return_, 1) := by decide +kernel
theorem dX3_isPlugged_0 : decode cX3_isPlugged 0 = .ok (.aload_n 0, 1) := by decide +kernel
theorem dX3_isPlugged_1 : decode cX3_isPlugged 1 = .ok (.getfield 9, 3) := by decide +kernel
theorem dX3_isPlugged_4 : decode cX3_isPlugged 4 = .ok (.iconst (-1), 1) := by decide +kernel
theorem dX3_isPlugged_5 : decode cX3_isPlugged 5 = .ok (.if_icmp .eq 7, 3) := by decide +kernel
theorem dX3_isPlugged_8 : decode cX3_isPlugged 8 = .ok (.iconst 1, 1) := by decide +kernel
theorem dX3_isPlugged_9 : decode cX3_isPlugged 9 = .ok (.goto 4, 3) := by decide +kernel
theorem dX3_isPlugged_12 : decode cX3_isPlugged 12 = .ok (.iconst 0, 1) := by decide +kernel
theorem dX3_isPlugged_13 : decode cX3_isPlugged 13 = .ok (.ireturn, 1) := by decide +kernel
theorem dX3_fits_0 : decode cX3_fits 0 = .ok (.iload_n 1, 1) := by decide +kernel
theorem dX3_fits_1 : decode cX3_fits 1 = .ok (.iconst 3, 1) := by decide +kernel
theorem dX3_fits_2 : decode cX3_fits 2 = .ok (.if_icmp .eq 13, 3) := by decide +kernel
theorem dX3_fits_5 : decode cX3_fits 5 = .ok (.aload_n 0, 1) := by decide +kernel
theorem dX3_fits_6 : decode cX3_fits 6 = .ok (.getfield 28, 3) := by decide +kernel
theorem dX3_fits_9 : decode cX3_fits 9 = .ok (.iconst 2, 1) := by decide +kernel
theorem dX3_fits_10 : decode cX3_fits 10 = .ok (.iload_n 1, 1) := by decide +kernel
theorem dX3_fits_11 : decode cX3_fits 11 = .ok (.iadd, 1) := by decide +kernel
theorem dX3_fits_12 : decode cX3_fits 12 = .ok (.if_icmp .ne 7, 3) := by decide +kernel
theorem dX3_fits_15 : decode cX3_fits 15 = .ok (.iconst 1, 1) := by decide +kernel
theorem dX3_fits_16 : decode cX3_fits 16 = .ok (.goto 4, 3) := by decide +kernel
theorem dX3_fits_19 : decode cX3_fits 19 = .ok (.iconst 0, 1) := by decide +kernel
theorem dX3_fits_20 : decode cX3_fits 20 = .ok (.ireturn, 1) := by decide +kernel
theorem dX3_isCompensated_0 : decode cX3_isCompensated 0 = .ok (.aload_n 0, 1) := by decide +kernel
theorem dX3_isCompensated_1 : decode cX3_isCompensated 1 = .ok (.getfield 28, 3) := by decide +kernel
theorem dX3_isCompensated_4 : decode cX3_isCompensated 4 = .ok (.iconst 3, 1) := by decide +kernel
theorem dX3_isCompensated_5 : decode cX3_isCompensated 5 = .ok (.if_icmp .ne 7, 3) := by decide +kernel
theorem dX3_isCompensated_8 : decode cX3_isCompensated 8 = .ok (.iconst 1, 1) := by decide +kernel
theorem dX3_isCompensated_9 : decode cX3_isCompensated 9 = .ok (.goto 4, 3) := by decide +kernel
theorem dX3_isCompensated_12 : decode cX3_isCompensated 12 = .ok (.iconst 0, 1) := by decide +kernel
theorem dX3_isCompensated_13 : decode cX3_isCompensated 13 = .ok (.ireturn, 1) := by decide +kernel
theorem dX3_hasWire_0 : decode cX3_hasWire 0 = .ok (.iload_n 1, 1) := by decide +kernel
theorem dX3_hasWire_1 : decode cX3_hasWire 1 = .ok (.ifCond .lt 15, 3) := by decide +kernel
theorem dX3_hasWire_4 : decode cX3_hasWire 4 = .ok (.iload_n 1, 1) := by decide +kernel
theorem dX3_hasWire_5 : decode cX3_hasWire 5 = .ok (.aload_n 0, 1) := by decide +kernel
theorem dX3_hasWire_6 : decode cX3_hasWire 6 = .ok (.getfield 28, 3) := by decide +kernel
theorem dX3_hasWire_9 : decode cX3_hasWire 9 = .ok (.if_icmp .ge 7, 3) := by decide +kernel
theorem dX3_hasWire_12 : decode cX3_hasWire 12 = .ok (.iconst 1, 1) := by decide +kernel
theorem dX3_hasWire_13 : decode cX3_hasWire 13 = .ok (.goto 4, 3) := by decide +kernel
theorem dX3_hasWire_16 : decode cX3_hasWire 16 = .ok (.iconst 0, 1) := by decide +kernel
theorem dX3_hasWire_17 : decode cX3_hasWire 17 = .ok (.ireturn, 1) := by decide +kernel
theorem dX3_leadOf_0 : decode cX3_leadOf 0 = .ok (.iload_n 1, 1) := by decide +kernel
theorem dX3_leadOf_1 : decode cX3_leadOf 1 = .ok (.ifCond .lt 21, 3) := by decide +kernel
theorem dX3_leadOf_4 : decode cX3_leadOf 4 = .ok (.iload_n 1, 1) := by decide +kernel
theorem dX3_leadOf_5 : decode cX3_leadOf 5 = .ok (.aload_n 0, 1) := by decide +kernel
theorem dX3_leadOf_6 : decode cX3_leadOf 6 = .ok (.getfield 15, 3) := by decide +kernel
theorem dX3_leadOf_9 : decode cX3_leadOf 9 = .ok (.arraylength, 1) := by decide +kernel
theorem dX3_leadOf_10 : decode cX3_leadOf 10 = .ok (.if_icmp .ge 12, 3) := by decide +kernel
theorem dX3_leadOf_13 : decode cX3_leadOf 13 = .ok (.aload_n 0, 1) := by decide +kernel
theorem dX3_leadOf_14 : decode cX3_leadOf 14 = .ok (.getfield 15, 3) := by decide +kernel
theorem dX3_leadOf_17 : decode cX3_leadOf 17 = .ok (.iload_n 1, 1) := by decide +kernel
theorem dX3_leadOf_18 : decode cX3_leadOf 18 = .ok (.iaload, 1) := by decide +kernel
theorem dX3_leadOf_19 : decode cX3_leadOf 19 = .ok (.goto 4, 3) := by decide +kernel
theorem dX3_leadOf_22 : decode cX3_leadOf 22 = .ok (.iconst 0, 1) := by decide +kernel
theorem dX3_leadOf_23 : decode cX3_leadOf 23 = .ok (.ireturn, 1) := by decide +kernel
theorem dX3_setLead_0 : decode cX3_setLead 0 = .ok (.iload_n 1, 1) := by decide +kernel
theorem dX3_setLead_1 : decode cX3_setLead 1 = .ok (.ifCond .lt 19, 3) := by decide +kernel
theorem dX3_setLead_4 : decode cX3_setLead 4 = .ok (.iload_n 1, 1) := by decide +kernel
theorem dX3_setLead_5 : decode cX3_setLead 5 = .ok (.aload_n 0, 1) := by decide +kernel
theorem dX3_setLead_6 : decode cX3_setLead 6 = .ok (.getfield 15, 3) := by decide +kernel
theorem dX3_setLead_9 : decode cX3_setLead 9 = .ok (.arraylength, 1) := by decide +kernel
theorem dX3_setLead_10 : decode cX3_setLead 10 = .ok (.if_icmp .ge 10, 3) := by decide +kernel
theorem dX3_setLead_13 : decode cX3_setLead 13 = .ok (.aload_n 0, 1) := by decide +kernel
theorem dX3_setLead_14 : decode cX3_setLead 14 = .ok (.getfield 15, 3) := by decide +kernel
theorem dX3_setLead_17 : decode cX3_setLead 17 = .ok (.iload_n 1, 1) := by decide +kernel
theorem dX3_setLead_18 : decode cX3_setLead 18 = .ok (.iload_n 2, 1) := by decide +kernel
theorem dX3_setLead_19 : decode cX3_setLead 19 = .ok (.iastore, 1) := by decide +kernel
theorem dX3_setLead_20 : decode cX3_setLead 20 = .ok (.return_, 1) := by decide +kernel
theorem dX3_strainOf_0 : decode cX3_strainOf 0 = .ok (.iload_n 1, 1) := by decide +kernel
theorem dX3_strainOf_1 : decode cX3_strainOf 1 = .ok (.ifCond .lt 21, 3) := by decide +kernel
theorem dX3_strainOf_4 : decode cX3_strainOf 4 = .ok (.iload_n 1, 1) := by decide +kernel
theorem dX3_strainOf_5 : decode cX3_strainOf 5 = .ok (.aload_n 0, 1) := by decide +kernel
theorem dX3_strainOf_6 : decode cX3_strainOf 6 = .ok (.getfield 19, 3) := by decide +kernel
theorem dX3_strainOf_9 : decode cX3_strainOf 9 = .ok (.arraylength, 1) := by decide +kernel
theorem dX3_strainOf_10 : decode cX3_strainOf 10 = .ok (.if_icmp .ge 12, 3) := by decide +kernel
theorem dX3_strainOf_13 : decode cX3_strainOf 13 = .ok (.aload_n 0, 1) := by decide +kernel
theorem dX3_strainOf_14 : decode cX3_strainOf 14 = .ok (.getfield 19, 3) := by decide +kernel
theorem dX3_strainOf_17 : decode cX3_strainOf 17 = .ok (.iload_n 1, 1) := by decide +kernel
theorem dX3_strainOf_18 : decode cX3_strainOf 18 = .ok (.iaload, 1) := by decide +kernel
theorem dX3_strainOf_19 : decode cX3_strainOf 19 = .ok (.goto 4, 3) := by decide +kernel
theorem dX3_strainOf_22 : decode cX3_strainOf 22 = .ok (.iconst 0, 1) := by decide +kernel
theorem dX3_strainOf_23 : decode cX3_strainOf 23 = .ok (.ireturn, 1) := by decide +kernel
theorem dX3_setStrain_0 : decode cX3_setStrain 0 = .ok (.iload_n 1, 1) := by decide +kernel
theorem dX3_setStrain_1 : decode cX3_setStrain 1 = .ok (.ifCond .lt 19, 3) := by decide +kernel
theorem dX3_setStrain_4 : decode cX3_setStrain 4 = .ok (.iload_n 1, 1) := by decide +kernel
theorem dX3_setStrain_5 : decode cX3_setStrain 5 = .ok (.aload_n 0, 1) := by decide +kernel
theorem dX3_setStrain_6 : decode cX3_setStrain 6 = .ok (.getfield 19, 3) := by decide +kernel
theorem dX3_setStrain_9 : decode cX3_setStrain 9 = .ok (.arraylength, 1) := by decide +kernel
theorem dX3_setStrain_10 : decode cX3_setStrain 10 = .ok (.if_icmp .ge 10, 3) := by decide +kernel
theorem dX3_setStrain_13 : decode cX3_setStrain 13 = .ok (.aload_n 0, 1) := by decide +kernel
theorem dX3_setStrain_14 : decode cX3_setStrain 14 = .ok (.getfield 19, 3) := by decide +kernel
theorem dX3_setStrain_17 : decode cX3_setStrain 17 = .ok (.iload_n 1, 1) := by decide +kernel
theorem dX3_setStrain_18 : decode cX3_setStrain 18 = .ok (.iload_n 2, 1) := by decide +kernel
theorem dX3_setStrain_19 : decode cX3_setStrain 19 = .ok (.iastore, 1) := by decide +kernel
theorem dX3_setStrain_20 : decode cX3_setStrain 20 = .ok (.return_, 1) := by decide +kernel
theorem dX3_isBroken_0 : decode cX3_isBroken 0 = .ok (.aload_n 0, 1) := by decide +kernel
theorem dX3_isBroken_1 : decode cX3_isBroken 1 = .ok (.getfield 46, 3) := by decide +kernel
theorem dX3_isBroken_4 : decode cX3_isBroken 4 = .ok (.iload_n 1, 1) := by decide +kernel
theorem dX3_isBroken_5 : decode cX3_isBroken 5 = .ok (.ishr, 1) := by decide +kernel
theorem dX3_isBroken_6 : decode cX3_isBroken 6 = .ok (.iconst 1, 1) := by decide +kernel
theorem dX3_isBroken_7 : decode cX3_isBroken 7 = .ok (.iand, 1) := by decide +kernel
theorem dX3_isBroken_8 : decode cX3_isBroken 8 = .ok (.iconst 1, 1) := by decide +kernel
theorem dX3_isBroken_9 : decode cX3_isBroken 9 = .ok (.if_icmp .ne 7, 3) := by decide +kernel
theorem dX3_isBroken_12 : decode cX3_isBroken 12 = .ok (.iconst 1, 1) := by decide +kernel
theorem dX3_isBroken_13 : decode cX3_isBroken 13 = .ok (.goto 4, 3) := by decide +kernel
theorem dX3_isBroken_16 : decode cX3_isBroken 16 = .ok (.iconst 0, 1) := by decide +kernel
theorem dX3_isBroken_17 : decode cX3_isBroken 17 = .ok (.ireturn, 1) := by decide +kernel
theorem dX3_turnWire_0 : decode cX3_turnWire 0 = .ok (.aload_n 0, 1) := by decide +kernel
theorem dX3_turnWire_1 : decode cX3_turnWire 1 = .ok (.dup, 1) := by decide +kernel
theorem dX3_turnWire_2 : decode cX3_turnWire 2 = .ok (.getfield 46, 3) := by decide +kernel
theorem dX3_turnWire_5 : decode cX3_turnWire 5 = .ok (.iconst 1, 1) := by decide +kernel
theorem dX3_turnWire_6 : decode cX3_turnWire 6 = .ok (.iload_n 1, 1) := by decide +kernel
theorem dX3_turnWire_7 : decode cX3_turnWire 7 = .ok (.ishl, 1) := by decide +kernel
theorem dX3_turnWire_8 : decode cX3_turnWire 8 = .ok (.ixor, 1) := by decide +kernel
theorem dX3_turnWire_9 : decode cX3_turnWire 9 = .ok (.putfield 46, 3) := by decide +kernel
theorem dX3_turnWire_12 : decode cX3_turnWire 12 = .ok (.return_, 1) := by decide +kernel
theorem dX3_watch_0 : decode cX3_watch 0 = .ok (.aload_n 0, 1) := by decide +kernel
theorem dX3_watch_1 : decode cX3_watch 1 = .ok (.iload_n 1, 1) := by decide +kernel
theorem dX3_watch_2 : decode cX3_watch 2 = .ok (.putfield 49, 3) := by decide +kernel
theorem dX3_watch_5 : decode cX3_watch 5 = .ok (.aload_n 0, 1) := by decide +kernel
theorem dX3_watch_6 : decode cX3_watch 6 = .ok (.iload_n 2, 1) := by decide +kernel
theorem dX3_watch_7 : decode cX3_watch 7 = .ok (.putfield 52, 3) := by decide +kernel
theorem dX3_watch_10 : decode cX3_watch 10 = .ok (.aload_n 0, 1) := by decide +kernel
theorem dX3_watch_11 : decode cX3_watch 11 = .ok (.iload_n 3, 1) := by decide +kernel
theorem dX3_watch_12 : decode cX3_watch 12 = .ok (.putfield 55, 3) := by decide +kernel
theorem dX3_watch_15 : decode cX3_watch 15 = .ok (.aload_n 0, 1) := by decide +kernel
theorem dX3_watch_16 : decode cX3_watch 16 = .ok (.iconst 0, 1) := by decide +kernel
theorem dX3_watch_17 : decode cX3_watch 17 = .ok (.putfield 58, 3) := by decide +kernel
theorem dX3_watch_20 : decode cX3_watch 20 = .ok (.return_, 1) := by decide +kernel
theorem dX3_keptReadings_0 : decode cX3_keptReadings 0 = .ok (.aload_n 0, 1) := by decide +kernel
theorem dX3_keptReadings_1 : decode cX3_keptReadings 1 = .ok (.getfield 61, 3) := by decide +kernel
theorem dX3_keptReadings_4 : decode cX3_keptReadings 4 = .ok (.bipush 9, 2) := by decide +kernel
theorem dX3_keptReadings_6 : decode cX3_keptReadings 6 = .ok (.invokestatic 70, 3) := by decide +kernel
theorem dX3_keptReadings_9 : decode cX3_keptReadings 9 = .ok (.ireturn, 1) := by decide +kernel
theorem dX3_reading_0 : decode cX3_reading 0 = .ok (.iload_n 1, 1) := by decide +kernel
theorem dX3_reading_1 : decode cX3_reading 1 = .ok (.ifCond .lt 21, 3) := by decide +kernel
theorem dX3_reading_4 : decode cX3_reading 4 = .ok (.iload_n 1, 1) := by decide +kernel
theorem dX3_reading_5 : decode cX3_reading 5 = .ok (.aload_n 0, 1) := by decide +kernel
theorem dX3_reading_6 : decode cX3_reading 6 = .ok (.getfield 22, 3) := by decide +kernel
theorem dX3_reading_9 : decode cX3_reading 9 = .ok (.arraylength, 1) := by decide +kernel
theorem dX3_reading_10 : decode cX3_reading 10 = .ok (.if_icmp .ge 12, 3) := by decide +kernel
theorem dX3_reading_13 : decode cX3_reading 13 = .ok (.aload_n 0, 1) := by decide +kernel
theorem dX3_reading_14 : decode cX3_reading 14 = .ok (.getfield 22, 3) := by decide +kernel
theorem dX3_reading_17 : decode cX3_reading 17 = .ok (.iload_n 1, 1) := by decide +kernel
theorem dX3_reading_18 : decode cX3_reading 18 = .ok (.iaload, 1) := by decide +kernel
theorem dX3_reading_19 : decode cX3_reading 19 = .ok (.goto 4, 3) := by decide +kernel
theorem dX3_reading_22 : decode cX3_reading 22 = .ok (.iconst 0, 1) := by decide +kernel
theorem dX3_reading_23 : decode cX3_reading 23 = .ok (.ireturn, 1) := by decide +kernel
theorem dX3_log_0 : decode cX3_log 0 = .ok (.bipush 8, 2) := by decide +kernel
theorem dX3_log_2 : decode cX3_log 2 = .ok (.istore_n 2, 1) := by decide +kernel
theorem dX3_log_3 : decode cX3_log 3 = .ok (.iload_n 2, 1) := by decide +kernel
theorem dX3_log_4 : decode cX3_log 4 = .ok (.ifCond .le 23, 3) := by decide +kernel
theorem dX3_log_7 : decode cX3_log 7 = .ok (.aload_n 0, 1) := by decide +kernel
theorem dX3_log_8 : decode cX3_log 8 = .ok (.getfield 22, 3) := by decide +kernel
theorem dX3_log_11 : decode cX3_log 11 = .ok (.iload_n 2, 1) := by decide +kernel
theorem dX3_log_12 : decode cX3_log 12 = .ok (.aload_n 0, 1) := by decide +kernel
theorem dX3_log_13 : decode cX3_log 13 = .ok (.getfield 22, 3) := by decide +kernel
theorem dX3_log_16 : decode cX3_log 16 = .ok (.iload_n 2, 1) := by decide +kernel
theorem dX3_log_17 : decode cX3_log 17 = .ok (.iconst 1, 1) := by decide +kernel
theorem dX3_log_18 : decode cX3_log 18 = .ok (.isub, 1) := by decide +kernel
theorem dX3_log_19 : decode cX3_log 19 = .ok (.iaload, 1) := by decide +kernel
theorem dX3_log_20 : decode cX3_log 20 = .ok (.iastore, 1) := by decide +kernel
theorem dX3_log_21 : decode cX3_log 21 = .ok (.iinc 2 (-1), 3) := by decide +kernel
theorem dX3_log_24 : decode cX3_log 24 = .ok (.goto (-21), 3) := by decide +kernel
theorem dX3_log_27 : decode cX3_log 27 = .ok (.aload_n 0, 1) := by decide +kernel
theorem dX3_log_28 : decode cX3_log 28 = .ok (.getfield 22, 3) := by decide +kernel
theorem dX3_log_31 : decode cX3_log 31 = .ok (.iconst 0, 1) := by decide +kernel
theorem dX3_log_32 : decode cX3_log 32 = .ok (.iload_n 1, 1) := by decide +kernel
theorem dX3_log_33 : decode cX3_log 33 = .ok (.iastore, 1) := by decide +kernel
theorem dX3_log_34 : decode cX3_log 34 = .ok (.aload_n 0, 1) := by decide +kernel
theorem dX3_log_35 : decode cX3_log 35 = .ok (.dup, 1) := by decide +kernel
theorem dX3_log_36 : decode cX3_log 36 = .ok (.getfield 61, 3) := by decide +kernel
theorem dX3_log_39 : decode cX3_log 39 = .ok (.iconst 1, 1) := by decide +kernel
theorem dX3_log_40 : decode cX3_log 40 = .ok (.iadd, 1) := by decide +kernel
theorem dX3_log_41 : decode cX3_log 41 = .ok (.putfield 61, 3) := by decide +kernel
theorem dX3_log_44 : decode cX3_log 44 = .ok (.aload_n 0, 1) := by decide +kernel
theorem dX3_log_45 : decode cX3_log 45 = .ok (.getfield 58, 3) := by decide +kernel
theorem dX3_log_48 : decode cX3_log 48 = .ok (.ifCond .ne 27, 3) := by decide +kernel
theorem dX3_log_51 : decode cX3_log 51 = .ok (.iload_n 1, 1) := by decide +kernel
theorem dX3_log_52 : decode cX3_log 52 = .ok (.aload_n 0, 1) := by decide +kernel
theorem dX3_log_53 : decode cX3_log 53 = .ok (.getfield 49, 3) := by decide +kernel
theorem dX3_log_56 : decode cX3_log 56 = .ok (.if_icmp .lt 11, 3) := by decide +kernel
theorem dX3_log_59 : decode cX3_log 59 = .ok (.iload_n 1, 1) := by decide +kernel
theorem dX3_log_60 : decode cX3_log 60 = .ok (.aload_n 0, 1) := by decide +kernel
theorem dX3_log_61 : decode cX3_log 61 = .ok (.getfield 52, 3) := by decide +kernel
theorem dX3_log_64 : decode cX3_log 64 = .ok (.if_icmp .le 11, 3) := by decide +kernel
theorem dX3_log_67 : decode cX3_log 67 = .ok (.aload_n 0, 1) := by decide +kernel
theorem dX3_log_68 : decode cX3_log 68 = .ok (.iconst 1, 1) := by decide +kernel
theorem dX3_log_69 : decode cX3_log 69 = .ok (.putfield 58, 3) := by decide +kernel
theorem dX3_log_72 : decode cX3_log 72 = .ok (.goto 42, 3) := by decide +kernel
theorem dX3_log_75 : decode cX3_log 75 = .ok (.aload_n 0, 1) := by decide +kernel
theorem dX3_log_76 : decode cX3_log 76 = .ok (.getfield 58, 3) := by decide +kernel
theorem dX3_log_79 : decode cX3_log 79 = .ok (.iconst 1, 1) := by decide +kernel
theorem dX3_log_80 : decode cX3_log 80 = .ok (.if_icmp .ne 34, 3) := by decide +kernel
theorem dX3_log_83 : decode cX3_log 83 = .ok (.iload_n 1, 1) := by decide +kernel
theorem dX3_log_84 : decode cX3_log 84 = .ok (.aload_n 0, 1) := by decide +kernel
theorem dX3_log_85 : decode cX3_log 85 = .ok (.getfield 49, 3) := by decide +kernel
theorem dX3_log_88 : decode cX3_log 88 = .ok (.aload_n 0, 1) := by decide +kernel
theorem dX3_log_89 : decode cX3_log 89 = .ok (.getfield 55, 3) := by decide +kernel
theorem dX3_log_92 : decode cX3_log 92 = .ok (.iadd, 1) := by decide +kernel
theorem dX3_log_93 : decode cX3_log 93 = .ok (.if_icmp .lt 21, 3) := by decide +kernel
theorem dX3_log_96 : decode cX3_log 96 = .ok (.iload_n 1, 1) := by decide +kernel
theorem dX3_log_97 : decode cX3_log 97 = .ok (.aload_n 0, 1) := by decide +kernel
theorem dX3_log_98 : decode cX3_log 98 = .ok (.getfield 52, 3) := by decide +kernel
theorem dX3_log_101 : decode cX3_log 101 = .ok (.aload_n 0, 1) := by decide +kernel
theorem dX3_log_102 : decode cX3_log 102 = .ok (.getfield 55, 3) := by decide +kernel
theorem dX3_log_105 : decode cX3_log 105 = .ok (.isub, 1) := by decide +kernel
theorem dX3_log_106 : decode cX3_log 106 = .ok (.if_icmp .gt 8, 3) := by decide +kernel
theorem dX3_log_109 : decode cX3_log 109 = .ok (.aload_n 0, 1) := by decide +kernel
theorem dX3_log_110 : decode cX3_log 110 = .ok (.iconst 0, 1) := by decide +kernel
theorem dX3_log_111 : decode cX3_log 111 = .ok (.putfield 58, 3) := by decide +kernel
theorem dX3_log_114 : decode cX3_log 114 = .ok (.return_, 1) := by decide +kernel
theorem dX4_init_0 : decode cX4_init 0 = .ok (.aload_n 0, 1) := by decide +kernel
theorem dX4_init_1 : decode cX4_init 1 = .ok (.invokespecial 3, 3) := by decide +kernel
theorem dX4_init_4 : decode cX4_init 4 = .ok (.aload_n 0, 1) := by decide +kernel
theorem dX4_init_5 : decode cX4_init 5 = .ok (.iconst (-1), 1) := by decide +kernel
theorem dX4_init_6 : decode cX4_init 6 = .ok (.putfield 9, 3) := by decide +kernel
theorem dX4_init_9 : decode cX4_init 9 = .ok (.aload_n 0, 1) := by decide +kernel
theorem dX4_init_10 : decode cX4_init 10 = .ok (.iconst 3, 1) := by decide +kernel
theorem dX4_init_11 : decode cX4_init 11 = .ok (.anewarray 15, 3) := by decide +kernel
theorem dX4_init_14 : decode cX4_init 14 = .ok (.putfield 17, 3) := by decide +kernel
theorem dX4_init_17 : decode cX4_init 17 = .ok (.aload_n 0, 1) := by decide +kernel
theorem dX4_init_18 : decode cX4_init 18 = .ok (.bipush 6, 2) := by decide +kernel
theorem dX4_init_20 : decode cX4_init 20 = .ok (.anewarray 21, 3) := by decide +kernel
theorem dX4_init_23 : decode cX4_init 23 = .ok (.putfield 23, 3) := by decide +kernel
theorem dX4_init_26 : decode cX4_init 26 = .ok (.aload_n 0, 1) := by decide +kernel
theorem dX4_init_27 : decode cX4_init 27 = .ok (.bipush 7, 2) := by decide +kernel
theorem dX4_init_29 : decode cX4_init 29 = .ok (.newarray .int, 2) := by decide +kernel
theorem dX4_init_31 : decode cX4_init 31 = .ok (.putfield 27, 3) := by decide +kernel
theorem dX4_init_34 : decode cX4_init 34 = .ok (.iconst 0, 1) := by decide +kernel
theorem dX4_init_35 : decode cX4_init 35 = .ok (.istore_n 1, 1) := by decide +kernel
theorem dX4_init_36 : decode cX4_init 36 = .ok (.iload_n 1, 1) := by decide +kernel
theorem dX4_init_37 : decode cX4_init 37 = .ok (.iconst 3, 1) := by decide +kernel
theorem dX4_init_38 : decode cX4_init 38 = .ok (.if_icmp .ge 22, 3) := by decide +kernel
theorem dX4_init_41 : decode cX4_init 41 = .ok (.aload_n 0, 1) := by decide +kernel
theorem dX4_init_42 : decode cX4_init 42 = .ok (.getfield 17, 3) := by decide +kernel
theorem dX4_init_45 : decode cX4_init 45 = .ok (.iload_n 1, 1) := by decide +kernel
theorem dX4_init_46 : decode cX4_init 46 = .ok (.new 15, 3) := by decide +kernel
theorem dX4_init_49 : decode cX4_init 49 = .ok (.dup, 1) := by decide +kernel
theorem dX4_init_50 : decode cX4_init 50 = .ok (.invokespecial 31, 3) := by decide +kernel
theorem dX4_init_53 : decode cX4_init 53 = .ok (.aastore, 1) := by decide +kernel
theorem dX4_init_54 : decode cX4_init 54 = .ok (.iinc 1 1, 3) := by decide +kernel
theorem dX4_init_57 : decode cX4_init 57 = .ok (.goto (-21), 3) := by decide +kernel
theorem dX4_init_60 : decode cX4_init 60 = .ok (.iconst 0, 1) := by decide +kernel
theorem dX4_init_61 : decode cX4_init 61 = .ok (.istore_n 1, 1) := by decide +kernel
theorem dX4_init_62 : decode cX4_init 62 = .ok (.iload_n 1, 1) := by decide +kernel
theorem dX4_init_63 : decode cX4_init 63 = .ok (.bipush 6, 2) := by decide +kernel
theorem dX4_init_65 : decode cX4_init 65 = .ok (.if_icmp .ge 22, 3) := by decide +kernel
theorem dX4_init_68 : decode cX4_init 68 = .ok (.aload_n 0, 1) := by decide +kernel
theorem dX4_init_69 : decode cX4_init 69 = .ok (.getfield 23, 3) := by decide +kernel
theorem dX4_init_72 : decode cX4_init 72 = .ok (.iload_n 1, 1) := by decide +kernel
theorem dX4_init_73 : decode cX4_init 73 = .ok (.new 21, 3) := by decide +kernel
theorem dX4_init_76 : decode cX4_init 76 = .ok (.dup, 1) := by decide +kernel
theorem dX4_init_77 : decode cX4_init 77 = .ok (.invokespecial 32, 3) := by decide +kernel
theorem dX4_init_80 : decode cX4_init 80 = .ok (.aastore, 1) := by decide +kernel
theorem dX4_init_81 : decode cX4_init 81 = .ok (.iinc 1 1, 3) := by decide +kernel
theorem dX4_init_84 : decode cX4_init 84 = .ok (.goto (-22), 3) := by decide +kernel
theorem dX4_init_87 : decode cX4_init 87 = .ok (.getstatic 33, 3) := by decide +kernel
theorem dX4_init_90 : decode cX4_init 90 = .ok (.iconst 0, 1) := by decide +kernel
theorem dX4_init_91 : decode cX4_init 91 = .ok (.aload_n 0, 1) := by decide +kernel
theorem dX4_init_92 : decode cX4_init 92 = .ok (.getfield 27, 3) := by decide +kernel
theorem dX4_init_95 : decode cX4_init 95 = .ok (.iconst 0, 1) := by decide +kernel
theorem dX4_init_96 : decode cX4_init 96 = .ok (.bipush 7, 2) := by decide +kernel
theorem dX4_init_98 : decode cX4_init 98 = .ok (.invokestatic 36, 3) := by decide +kernel
theorem dX4_init_101 : decode cX4_init 101 = .ok (.return_, 1) := by decide +kernel
theorem dX4_copy_0 : decode cX4_copy 0 = .ok (.aload_n 0, 1) := by decide +kernel
theorem dX4_copy_1 : decode cX4_copy 1 = .ok (.aload_n 1, 1) := by decide +kernel
theorem dX4_copy_2 : decode cX4_copy 2 = .ok (.getfield 42, 3) := by decide +kernel
theorem dX4_copy_5 : decode cX4_copy 5 = .ok (.putfield 42, 3) := by decide +kernel
theorem dX4_copy_8 : decode cX4_copy 8 = .ok (.aload_n 0, 1) := by decide +kernel
theorem dX4_copy_9 : decode cX4_copy 9 = .ok (.aload_n 1, 1) := by decide +kernel
theorem dX4_copy_10 : decode cX4_copy 10 = .ok (.getfield 45, 3) := by decide +kernel
theorem dX4_copy_13 : decode cX4_copy 13 = .ok (.putfield 45, 3) := by decide +kernel
theorem dX4_copy_16 : decode cX4_copy 16 = .ok (.aload_n 0, 1) := by decide +kernel
theorem dX4_copy_17 : decode cX4_copy 17 = .ok (.aload_n 1, 1) := by decide +kernel
theorem dX4_copy_18 : decode cX4_copy 18 = .ok (.getfield 9, 3) := by decide +kernel
theorem dX4_copy_21 : decode cX4_copy 21 = .ok (.putfield 9, 3) := by decide +kernel
theorem dX4_copy_24 : decode cX4_copy 24 = .ok (.iconst 0, 1) := by decide +kernel
theorem dX4_copy_25 : decode cX4_copy 25 = .ok (.istore_n 2, 1) := by decide +kernel
theorem dX4_copy_26 : decode cX4_copy 26 = .ok (.iload_n 2, 1) := by decide +kernel
theorem dX4_copy_27 : decode cX4_copy 27 = .ok (.iconst 3, 1) := by decide +kernel
theorem dX4_copy_28 : decode cX4_copy 28 = .ok (.if_icmp .ge 24, 3) := by decide +kernel
theorem dX4_copy_31 : decode cX4_copy 31 = .ok (.aload_n 0, 1) := by decide +kernel
theorem dX4_copy_32 : decode cX4_copy 32 = .ok (.getfield 17, 3) := by decide +kernel
theorem dX4_copy_35 : decode cX4_copy 35 = .ok (.iload_n 2, 1) := by decide +kernel
theorem dX4_copy_36 : decode cX4_copy 36 = .ok (.aaload, 1) := by decide +kernel
theorem dX4_copy_37 : decode cX4_copy 37 = .ok (.aload_n 1, 1) := by decide +kernel
theorem dX4_copy_38 : decode cX4_copy 38 = .ok (.getfield 17, 3) := by decide +kernel
theorem dX4_copy_41 : decode cX4_copy 41 = .ok (.iload_n 2, 1) := by decide +kernel
theorem dX4_copy_42 : decode cX4_copy 42 = .ok (.aaload, 1) := by decide +kernel
theorem dX4_copy_43 : decode cX4_copy 43 = .ok (.invokevirtual 48, 3) := by decide +kernel
theorem dX4_copy_46 : decode cX4_copy 46 = .ok (.iinc 2 1, 3) := by decide +kernel
theorem dX4_copy_49 : decode cX4_copy 49 = .ok (.goto (-23), 3) := by decide +kernel
theorem dX4_copy_52 : decode cX4_copy 52 = .ok (.iconst 0, 1) := by decide +kernel
theorem dX4_copy_53 : decode cX4_copy 53 = .ok (.istore_n 2, 1) := by decide +kernel
theorem dX4_copy_54 : decode cX4_copy 54 = .ok (.iload_n 2, 1) := by decide +kernel
theorem dX4_copy_55 : decode cX4_copy 55 = .ok (.bipush 6, 2) := by decide +kernel
theorem dX4_copy_57 : decode cX4_copy 57 = .ok (.if_icmp .ge 24, 3) := by decide +kernel
theorem dX4_copy_60 : decode cX4_copy 60 = .ok (.aload_n 0, 1) := by decide +kernel
theorem dX4_copy_61 : decode cX4_copy 61 = .ok (.getfield 23, 3) := by decide +kernel
theorem dX4_copy_64 : decode cX4_copy 64 = .ok (.iload_n 2, 1) := by decide +kernel
theorem dX4_copy_65 : decode cX4_copy 65 = .ok (.aaload, 1) := by decide +kernel
theorem dX4_copy_66 : decode cX4_copy 66 = .ok (.aload_n 1, 1) := by decide +kernel
theorem dX4_copy_67 : decode cX4_copy 67 = .ok (.getfield 23, 3) := by decide +kernel
theorem dX4_copy_70 : decode cX4_copy 70 = .ok (.iload_n 2, 1) := by decide +kernel
theorem dX4_copy_71 : decode cX4_copy 71 = .ok (.aaload, 1) := by decide +kernel
theorem dX4_copy_72 : decode cX4_copy 72 = .ok (.invokevirtual 52, 3) := by decide +kernel
theorem dX4_copy_75 : decode cX4_copy 75 = .ok (.iinc 2 1, 3) := by decide +kernel
theorem dX4_copy_78 : decode cX4_copy 78 = .ok (.goto (-24), 3) := by decide +kernel
theorem dX4_copy_81 : decode cX4_copy 81 = .ok (.aload_n 1, 1) := by decide +kernel
theorem dX4_copy_82 : decode cX4_copy 82 = .ok (.getfield 27, 3) := by decide +kernel
theorem dX4_copy_85 : decode cX4_copy 85 = .ok (.iconst 0, 1) := by decide +kernel
theorem dX4_copy_86 : decode cX4_copy 86 = .ok (.aload_n 0, 1) := by decide +kernel
theorem dX4_copy_87 : decode cX4_copy 87 = .ok (.getfield 27, 3) := by decide +kernel
theorem dX4_copy_90 : decode cX4_copy 90 = .ok (.iconst 0, 1) := by decide +kernel
theorem dX4_copy_91 : decode cX4_copy 91 = .ok (.bipush 7, 2) := by decide +kernel
theorem dX4_copy_93 : decode cX4_copy 93 = .ok (.invokestatic 36, 3) := by decide +kernel
theorem dX4_copy_96 : decode cX4_copy 96 = .ok (.return_, 1) := by decide +kernel
theorem dX4_tableAt_0 : decode cX4_tableAt 0 = .ok (.iload_n 1, 1) := by decide +kernel
theorem dX4_tableAt_1 : decode cX4_tableAt 1 = .ok (.ifCond .lt 24, 3) := by decide +kernel
theorem dX4_tableAt_4 : decode cX4_tableAt 4 = .ok (.iload_n 1, 1) := by decide +kernel
theorem dX4_tableAt_5 : decode cX4_tableAt 5 = .ok (.aload_n 0, 1) := by decide +kernel
theorem dX4_tableAt_6 : decode cX4_tableAt 6 = .ok (.getfield 42, 3) := by decide +kernel
theorem dX4_tableAt_9 : decode cX4_tableAt 9 = .ok (.if_icmp .ge 16, 3) := by decide +kernel
theorem dX4_tableAt_12 : decode cX4_tableAt 12 = .ok (.iload_n 1, 1) := by decide +kernel
theorem dX4_tableAt_13 : decode cX4_tableAt 13 = .ok (.aload_n 0, 1) := by decide +kernel
theorem dX4_tableAt_14 : decode cX4_tableAt 14 = .ok (.getfield 17, 3) := by decide +kernel
theorem dX4_tableAt_17 : decode cX4_tableAt 17 = .ok (.arraylength, 1) := by decide +kernel
theorem dX4_tableAt_18 : decode cX4_tableAt 18 = .ok (.if_icmp .ge 7, 3) := by decide +kernel
theorem dX4_tableAt_21 : decode cX4_tableAt 21 = .ok (.iconst 1, 1) := by decide +kernel
theorem dX4_tableAt_22 : decode cX4_tableAt 22 = .ok (.goto 4, 3) := by decide +kernel
theorem dX4_tableAt_25 : decode cX4_tableAt 25 = .ok (.iconst 0, 1) := by decide +kernel
theorem dX4_tableAt_26 : decode cX4_tableAt 26 = .ok (.istore_n 2, 1) := by decide +kernel
theorem dX4_tableAt_27 : decode cX4_tableAt 27 = .ok (.iload_n 2, 1) := by decide +kernel
theorem dX4_tableAt_28 : decode cX4_tableAt 28 = .ok (.ifCond .eq 12, 3) := by decide +kernel
theorem dX4_tableAt_31 : decode cX4_tableAt 31 = .ok (.aload_n 0, 1) := by decide +kernel
theorem dX4_tableAt_32 : decode cX4_tableAt 32 = .ok (.getfield 17, 3) := by decide +kernel
theorem dX4_tableAt_35 : decode cX4_tableAt 35 = .ok (.iload_n 1, 1) := by decide +kernel
theorem dX4_tableAt_36 : decode cX4_tableAt 36 = .ok (.aaload, 1) := by decide +kernel
theorem dX4_tableAt_37 : decode cX4_tableAt 37 = .ok (.goto 4, 3) := by decide +kernel
theorem dX4_tableAt_40 : decode cX4_tableAt 40 = .ok (.aconst_null, 1) := by decide +kernel
theorem dX4_tableAt_41 : decode cX4_tableAt 41 = .ok (.areturn, 1) := by decide +kernel
theorem dX4_sensorAt_0 : decode cX4_sensorAt 0 = .ok (.iload_n 1, 1) := by decide +kernel
theorem dX4_sensorAt_1 : decode cX4_sensorAt 1 = .ok (.ifCond .lt 24, 3) := by decide +kernel
theorem dX4_sensorAt_4 : decode cX4_sensorAt 4 = .ok (.iload_n 1, 1) := by decide +kernel
theorem dX4_sensorAt_5 : decode cX4_sensorAt 5 = .ok (.aload_n 0, 1) := by decide +kernel
theorem dX4_sensorAt_6 : decode cX4_sensorAt 6 = .ok (.getfield 45, 3) := by decide +kernel
theorem dX4_sensorAt_9 : decode cX4_sensorAt 9 = .ok (.if_icmp .ge 16, 3) := by decide +kernel
theorem dX4_sensorAt_12 : decode cX4_sensorAt 12 = .ok (.iload_n 1, 1) := by decide +kernel
theorem dX4_sensorAt_13 : decode cX4_sensorAt 13 = .ok (.aload_n 0, 1) := by decide +kernel
theorem dX4_sensorAt_14 : decode cX4_sensorAt 14 = .ok (.getfield 23, 3) := by decide +kernel
theorem dX4_sensorAt_17 : decode cX4_sensorAt 17 = .ok (.arraylength, 1) := by decide +kernel
theorem dX4_sensorAt_18 : decode cX4_sensorAt 18 = .ok (.if_icmp .ge 7, 3) := by decide +kernel
theorem dX4_sensorAt_21 : decode cX4_sensorAt 21 = .ok (.iconst 1, 1) := by decide +kernel
theorem dX4_sensorAt_22 : decode cX4_sensorAt 22 = .ok (.goto 4, 3) := by decide +kernel
theorem dX4_sensorAt_25 : decode cX4_sensorAt 25 = .ok (.iconst 0, 1) := by decide +kernel
theorem dX4_sensorAt_26 : decode cX4_sensorAt 26 = .ok (.istore_n 2, 1) := by decide +kernel
theorem dX4_sensorAt_27 : decode cX4_sensorAt 27 = .ok (.iload_n 2, 1) := by decide +kernel
theorem dX4_sensorAt_28 : decode cX4_sensorAt 28 = .ok (.ifCond .eq 12, 3) := by decide +kernel
theorem dX4_sensorAt_31 : decode cX4_sensorAt 31 = .ok (.aload_n 0, 1) := by decide +kernel
theorem dX4_sensorAt_32 : decode cX4_sensorAt 32 = .ok (.getfield 23, 3) := by decide +kernel
theorem dX4_sensorAt_35 : decode cX4_sensorAt 35 = .ok (.iload_n 1, 1) := by decide +kernel
theorem dX4_sensorAt_36 : decode cX4_sensorAt 36 = .ok (.aaload, 1) := by decide +kernel
theorem dX4_sensorAt_37 : decode cX4_sensorAt 37 = .ok (.goto 4, 3) := by decide +kernel
theorem dX4_sensorAt_40 : decode cX4_sensorAt 40 = .ok (.aconst_null, 1) := by decide +kernel
theorem dX4_sensorAt_41 : decode cX4_sensorAt 41 = .ok (.areturn, 1) := by decide +kernel
theorem dX4_setting_0 : decode cX4_setting 0 = .ok (.iload_n 1, 1) := by decide +kernel
theorem dX4_setting_1 : decode cX4_setting 1 = .ok (.ifCond .lt 21, 3) := by decide +kernel
theorem dX4_setting_4 : decode cX4_setting 4 = .ok (.iload_n 1, 1) := by decide +kernel
theorem dX4_setting_5 : decode cX4_setting 5 = .ok (.aload_n 0, 1) := by decide +kernel
theorem dX4_setting_6 : decode cX4_setting 6 = .ok (.getfield 27, 3) := by decide +kernel
theorem dX4_setting_9 : decode cX4_setting 9 = .ok (.arraylength, 1) := by decide +kernel
theorem dX4_setting_10 : decode cX4_setting 10 = .ok (.if_icmp .ge 12, 3) := by decide +kernel
theorem dX4_setting_13 : decode cX4_setting 13 = .ok (.aload_n 0, 1) := by decide +kernel
theorem dX4_setting_14 : decode cX4_setting 14 = .ok (.getfield 27, 3) := by decide +kernel
theorem dX4_setting_17 : decode cX4_setting 17 = .ok (.iload_n 1, 1) := by decide +kernel
theorem dX4_setting_18 : decode cX4_setting 18 = .ok (.iaload, 1) := by decide +kernel
theorem dX4_setting_19 : decode cX4_setting 19 = .ok (.goto 4, 3) := by decide +kernel
theorem dX4_setting_22 : decode cX4_setting 22 = .ok (.iconst 0, 1) := by decide +kernel
theorem dX4_setting_23 : decode cX4_setting 23 = .ok (.ireturn, 1) := by decide +kernel
theorem dX4_changeSetting_0 : decode cX4_changeSetting 0 = .ok (.iload_n 1, 1) := by decide +kernel
theorem dX4_changeSetting_1 : decode cX4_changeSetting 1 = .ok (.ifCond .lt 19, 3) := by decide +kernel
theorem dX4_changeSetting_4 : decode cX4_changeSetting 4 = .ok (.iload_n 1, 1) := by decide +kernel
theorem dX4_changeSetting_5 : decode cX4_changeSetting 5 = .ok (.aload_n 0, 1) := by decide +kernel
theorem dX4_changeSetting_6 : decode cX4_changeSetting 6 = .ok (.getfield 27, 3) := by decide +kernel
theorem dX4_changeSetting_9 : decode cX4_changeSetting 9 = .ok (.arraylength, 1) := by decide +kernel
theorem dX4_changeSetting_10 : decode cX4_changeSetting 10 = .ok (.if_icmp .ge 10, 3) := by decide +kernel
theorem dX4_changeSetting_13 : decode cX4_changeSetting 13 = .ok (.aload_n 0, 1) := by decide +kernel
theorem dX4_changeSetting_14 : decode cX4_changeSetting 14 = .ok (.getfield 27, 3) := by decide +kernel
theorem dX4_changeSetting_17 : decode cX4_changeSetting 17 = .ok (.iload_n 1, 1) := by decide +kernel
theorem dX4_changeSetting_18 : decode cX4_changeSetting 18 = .ok (.iload_n 2, 1) := by decide +kernel
theorem dX4_changeSetting_19 : decode cX4_changeSetting 19 = .ok (.iastore, 1) := by decide +kernel
theorem dX4_changeSetting_20 : decode cX4_changeSetting 20 = .ok (.return_, 1) := by decide +kernel
theorem dX4_hasSensorOf_0 : decode cX4_hasSensorOf 0 = .ok (.iconst 0, 1) := by decide +kernel
theorem dX4_hasSensorOf_1 : decode cX4_hasSensorOf 1 = .ok (.istore_n 2, 1) := by decide +kernel
theorem dX4_hasSensorOf_2 : decode cX4_hasSensorOf 2 = .ok (.iload_n 2, 1) := by decide +kernel
theorem dX4_hasSensorOf_3 : decode cX4_hasSensorOf 3 = .ok (.aload_n 0, 1) := by decide +kernel
theorem dX4_hasSensorOf_4 : decode cX4_hasSensorOf 4 = .ok (.getfield 45, 3) := by decide +kernel
theorem dX4_hasSensorOf_7 : decode cX4_hasSensorOf 7 = .ok (.if_icmp .ge 33, 3) := by decide +kernel
theorem dX4_hasSensorOf_10 : decode cX4_hasSensorOf 10 = .ok (.iload_n 2, 1) := by decide +kernel
theorem dX4_hasSensorOf_11 : decode cX4_hasSensorOf 11 = .ok (.aload_n 0, 1) := by decide +kernel
theorem dX4_hasSensorOf_12 : decode cX4_hasSensorOf 12 = .ok (.getfield 23, 3) := by decide +kernel
theorem dX4_hasSensorOf_15 : decode cX4_hasSensorOf 15 = .ok (.arraylength, 1) := by decide +kernel
theorem dX4_hasSensorOf_16 : decode cX4_hasSensorOf 16 = .ok (.if_icmp .ge 24, 3) := by decide +kernel
theorem dX4_hasSensorOf_19 : decode cX4_hasSensorOf 19 = .ok (.aload_n 0, 1) := by decide +kernel
theorem dX4_hasSensorOf_20 : decode cX4_hasSensorOf 20 = .ok (.getfield 23, 3) := by decide +kernel
theorem dX4_hasSensorOf_23 : decode cX4_hasSensorOf 23 = .ok (.iload_n 2, 1) := by decide +kernel
theorem dX4_hasSensorOf_24 : decode cX4_hasSensorOf 24 = .ok (.aaload, 1) := by decide +kernel
theorem dX4_hasSensorOf_25 : decode cX4_hasSensorOf 25 = .ok (.getfield 55, 3) := by decide +kernel
theorem dX4_hasSensorOf_28 : decode cX4_hasSensorOf 28 = .ok (.iload_n 1, 1) := by decide +kernel
theorem dX4_hasSensorOf_29 : decode cX4_hasSensorOf 29 = .ok (.if_icmp .ne 5, 3) := by decide +kernel
theorem dX4_hasSensorOf_32 : decode cX4_hasSensorOf 32 = .ok (.iconst 1, 1) := by decide +kernel
theorem dX4_hasSensorOf_33 : decode cX4_hasSensorOf 33 = .ok (.ireturn, 1) := by decide +kernel
theorem dX4_hasSensorOf_34 : decode cX4_hasSensorOf 34 = .ok (.iinc 2 1, 3) := by decide +kernel
theorem dX4_hasSensorOf_37 : decode cX4_hasSensorOf 37 = .ok (.goto (-35), 3) := by decide +kernel
theorem dX4_hasSensorOf_40 : decode cX4_hasSensorOf 40 = .ok (.iconst 0, 1) := by decide +kernel
theorem dX4_hasSensorOf_41 : decode cX4_hasSensorOf 41 = .ok (.ireturn, 1) := by decide +kernel
theorem dX4_sensorIn_0 : decode cX4_sensorIn 0 = .ok (.iconst 0, 1) := by decide +kernel
theorem dX4_sensorIn_1 : decode cX4_sensorIn 1 = .ok (.istore_n 2, 1) := by decide +kernel
theorem dX4_sensorIn_2 : decode cX4_sensorIn 2 = .ok (.iload_n 2, 1) := by decide +kernel
theorem dX4_sensorIn_3 : decode cX4_sensorIn 3 = .ok (.aload_n 0, 1) := by decide +kernel
theorem dX4_sensorIn_4 : decode cX4_sensorIn 4 = .ok (.getfield 45, 3) := by decide +kernel
theorem dX4_sensorIn_7 : decode cX4_sensorIn 7 = .ok (.if_icmp .ge 33, 3) := by decide +kernel
theorem dX4_sensorIn_10 : decode cX4_sensorIn 10 = .ok (.iload_n 2, 1) := by decide +kernel
theorem dX4_sensorIn_11 : decode cX4_sensorIn 11 = .ok (.aload_n 0, 1) := by decide +kernel
theorem dX4_sensorIn_12 : decode cX4_sensorIn 12 = .ok (.getfield 23, 3) := by decide +kernel
theorem dX4_sensorIn_15 : decode cX4_sensorIn 15 = .ok (.arraylength, 1) := by decide +kernel
theorem dX4_sensorIn_16 : decode cX4_sensorIn 16 = .ok (.if_icmp .ge 24, 3) := by decide +kernel
theorem dX4_sensorIn_19 : decode cX4_sensorIn 19 = .ok (.aload_n 0, 1) := by decide +kernel
theorem dX4_sensorIn_20 : decode cX4_sensorIn 20 = .ok (.getfield 23, 3) := by decide +kernel
theorem dX4_sensorIn_23 : decode cX4_sensorIn 23 = .ok (.iload_n 2, 1) := by decide +kernel
theorem dX4_sensorIn_24 : decode cX4_sensorIn 24 = .ok (.aaload, 1) := by decide +kernel
theorem dX4_sensorIn_25 : decode cX4_sensorIn 25 = .ok (.getfield 58, 3) := by decide +kernel
theorem dX4_sensorIn_28 : decode cX4_sensorIn 28 = .ok (.iload_n 1, 1) := by decide +kernel
theorem dX4_sensorIn_29 : decode cX4_sensorIn 29 = .ok (.if_icmp .ne 5, 3) := by decide +kernel
theorem dX4_sensorIn_32 : decode cX4_sensorIn 32 = .ok (.iload_n 2, 1) := by decide +kernel
theorem dX4_sensorIn_33 : decode cX4_sensorIn 33 = .ok (.ireturn, 1) := by decide +kernel
theorem dX4_sensorIn_34 : decode cX4_sensorIn 34 = .ok (.iinc 2 1, 3) := by decide +kernel
theorem dX4_sensorIn_37 : decode cX4_sensorIn 37 = .ok (.goto (-35), 3) := by decide +kernel
theorem dX4_sensorIn_40 : decode cX4_sensorIn 40 = .ok (.iconst (-1), 1) := by decide +kernel
theorem dX4_sensorIn_41 : decode cX4_sensorIn 41 = .ok (.ireturn, 1) := by decide +kernel
theorem dX4_takenSlots_0 : decode cX4_takenSlots 0 = .ok (.iconst 0, 1) := by decide +kernel
theorem dX4_takenSlots_1 : decode cX4_takenSlots 1 = .ok (.istore_n 2, 1) := by decide +kernel
theorem dX4_takenSlots_2 : decode cX4_takenSlots 2 = .ok (.iconst 0, 1) := by decide +kernel
theorem dX4_takenSlots_3 : decode cX4_takenSlots 3 = .ok (.istore_n 3, 1) := by decide +kernel
theorem dX4_takenSlots_4 : decode cX4_takenSlots 4 = .ok (.iload_n 3, 1) := by decide +kernel
theorem dX4_takenSlots_5 : decode cX4_takenSlots 5 = .ok (.iconst 3, 1) := by decide +kernel
theorem dX4_takenSlots_6 : decode cX4_takenSlots 6 = .ok (.if_icmp .ge 25, 3) := by decide +kernel
theorem dX4_takenSlots_9 : decode cX4_takenSlots 9 = .ok (.aload_n 0, 1) := by decide +kernel
theorem dX4_takenSlots_10 : decode cX4_takenSlots 10 = .ok (.iload_n 1, 1) := by decide +kernel
theorem dX4_takenSlots_11 : decode cX4_takenSlots 11 = .ok (.iconst 3, 1) := by decide +kernel
theorem dX4_takenSlots_12 : decode cX4_takenSlots 12 = .ok (.imul, 1) := by decide +kernel
theorem dX4_takenSlots_13 : decode cX4_takenSlots 13 = .ok (.iload_n 3, 1) := by decide +kernel
theorem dX4_takenSlots_14 : decode cX4_takenSlots 14 = .ok (.iadd, 1) := by decide +kernel
theorem dX4_takenSlots_15 : decode cX4_takenSlots 15 = .ok (.invokevirtual 61, 3) := by decide +kernel
theorem dX4_takenSlots_18 : decode cX4_takenSlots 18 = .ok (.iconst (-1), 1) := by decide +kernel
theorem dX4_takenSlots_19 : decode cX4_takenSlots 19 = .ok (.if_icmp .eq 6, 3) := by decide +kernel
theorem dX4_takenSlots_22 : decode cX4_takenSlots 22 = .ok (.iinc 2 1, 3) := by decide +kernel
theorem dX4_takenSlots_25 : decode cX4_takenSlots 25 = .ok (.iinc 3 1, 3) := by decide +kernel
theorem dX4_takenSlots_28 : decode cX4_takenSlots 28 = .ok (.goto (-24), 3) := by decide +kernel
theorem dX4_takenSlots_31 : decode cX4_takenSlots 31 = .ok (.iload_n 2, 1) := by decide +kernel
theorem dX4_takenSlots_32 : decode cX4_takenSlots 32 = .ok (.ireturn, 1) := by decide +kernel
theorem dX4_pluggedSensors_0 : decode cX4_pluggedSensors 0 = .ok (.iconst 0, 1) := by decide +kernel
theorem dX4_pluggedSensors_1 : decode cX4_pluggedSensors 1 = .ok (.istore_n 1, 1) := by decide +kernel
theorem dX4_pluggedSensors_2 : decode cX4_pluggedSensors 2 = .ok (.iconst 0, 1) := by decide +kernel
theorem dX4_pluggedSensors_3 : decode cX4_pluggedSensors 3 = .ok (.istore_n 2, 1) := by decide +kernel
theorem dX4_pluggedSensors_4 : decode cX4_pluggedSensors 4 = .ok (.iload_n 2, 1) := by decide +kernel
theorem dX4_pluggedSensors_5 : decode cX4_pluggedSensors 5 = .ok (.iconst 4, 1) := by decide +kernel
theorem dX4_pluggedSensors_6 : decode cX4_pluggedSensors 6 = .ok (.if_icmp .ge 17, 3) := by decide +kernel
theorem dX4_pluggedSensors_9 : decode cX4_pluggedSensors 9 = .ok (.iload_n 1, 1) := by decide +kernel
theorem dX4_pluggedSensors_10 : decode cX4_pluggedSensors 10 = .ok (.aload_n 0, 1) := by decide +kernel
theorem dX4_pluggedSensors_11 : decode cX4_pluggedSensors 11 = .ok (.iload_n 2, 1) := by decide +kernel
theorem dX4_pluggedSensors_12 : decode cX4_pluggedSensors 12 = .ok (.invokevirtual 65, 3) := by decide +kernel
theorem dX4_pluggedSensors_15 : decode cX4_pluggedSensors 15 = .ok (.iadd, 1) := by decide +kernel
theorem dX4_pluggedSensors_16 : decode cX4_pluggedSensors 16 = .ok (.istore_n 1, 1) := by decide +kernel
theorem dX4_pluggedSensors_17 : decode cX4_pluggedSensors 17 = .ok (.iinc 2 1, 3) := by decide +kernel
theorem dX4_pluggedSensors_20 : decode cX4_pluggedSensors 20 = .ok (.goto (-16), 3) := by decide +kernel
theorem dX4_pluggedSensors_23 : decode cX4_pluggedSensors 23 = .ok (.iload_n 1, 1) := by decide +kernel
theorem dX4_pluggedSensors_24 : decode cX4_pluggedSensors 24 = .ok (.ireturn, 1) := by decide +kernel
theorem dX4_alarmsOn_0 : decode cX4_alarmsOn 0 = .ok (.iconst 0, 1) := by decide +kernel
theorem dX4_alarmsOn_1 : decode cX4_alarmsOn 1 = .ok (.istore_n 1, 1) := by decide +kernel
theorem dX4_alarmsOn_2 : decode cX4_alarmsOn 2 = .ok (.iconst 0, 1) := by decide +kernel
theorem dX4_alarmsOn_3 : decode cX4_alarmsOn 3 = .ok (.istore_n 2, 1) := by decide +kernel
theorem dX4_alarmsOn_4 : decode cX4_alarmsOn 4 = .ok (.iload_n 2, 1) := by decide +kernel
theorem dX4_alarmsOn_5 : decode cX4_alarmsOn 5 = .ok (.aload_n 0, 1) := by decide +kernel
theorem dX4_alarmsOn_6 : decode cX4_alarmsOn 6 = .ok (.getfield 45, 3) := by decide +kernel
theorem dX4_alarmsOn_9 : decode cX4_alarmsOn 9 = .ok (.if_icmp .ge 30, 3) := by decide +kernel
theorem dX4_alarmsOn_12 : decode cX4_alarmsOn 12 = .ok (.iload_n 2, 1) := by decide +kernel
theorem dX4_alarmsOn_13 : decode cX4_alarmsOn 13 = .ok (.aload_n 0, 1) := by decide +kernel
theorem dX4_alarmsOn_14 : decode cX4_alarmsOn 14 = .ok (.getfield 23, 3) := by decide +kernel
theorem dX4_alarmsOn_17 : decode cX4_alarmsOn 17 = .ok (.arraylength, 1) := by decide +kernel
theorem dX4_alarmsOn_18 : decode cX4_alarmsOn 18 = .ok (.if_icmp .ge 21, 3) := by decide +kernel
theorem dX4_alarmsOn_21 : decode cX4_alarmsOn 21 = .ok (.iload_n 1, 1) := by decide +kernel
theorem dX4_alarmsOn_22 : decode cX4_alarmsOn 22 = .ok (.aload_n 0, 1) := by decide +kernel
theorem dX4_alarmsOn_23 : decode cX4_alarmsOn 23 = .ok (.getfield 23, 3) := by decide +kernel
theorem dX4_alarmsOn_26 : decode cX4_alarmsOn 26 = .ok (.iload_n 2, 1) := by decide +kernel
theorem dX4_alarmsOn_27 : decode cX4_alarmsOn 27 = .ok (.aaload, 1) := by decide +kernel
theorem dX4_alarmsOn_28 : decode cX4_alarmsOn 28 = .ok (.getfield 68, 3) := by decide +kernel
theorem dX4_alarmsOn_31 : decode cX4_alarmsOn 31 = .ok (.iadd, 1) := by decide +kernel
theorem dX4_alarmsOn_32 : decode cX4_alarmsOn 32 = .ok (.istore_n 1, 1) := by decide +kernel
theorem dX4_alarmsOn_33 : decode cX4_alarmsOn 33 = .ok (.iinc 2 1, 3) := by decide +kernel
theorem dX4_alarmsOn_36 : decode cX4_alarmsOn 36 = .ok (.goto (-32), 3) := by decide +kernel
theorem dX4_alarmsOn_39 : decode cX4_alarmsOn 39 = .ok (.iload_n 1, 1) := by decide +kernel
theorem dX4_alarmsOn_40 : decode cX4_alarmsOn 40 = .ok (.ireturn, 1) := by decide +kernel
theorem dX4_allReadings_0 : decode cX4_allReadings 0 = .ok (.iconst 0, 1) := by decide +kernel
theorem dX4_allReadings_1 : decode cX4_allReadings 1 = .ok (.istore_n 1, 1) := by decide +kernel
theorem dX4_allReadings_2 : decode cX4_allReadings 2 = .ok (.iconst 0, 1) := by decide +kernel
theorem dX4_allReadings_3 : decode cX4_allReadings 3 = .ok (.istore_n 2, 1) := by decide +kernel
theorem dX4_allReadings_4 : decode cX4_allReadings 4 = .ok (.iload_n 2, 1) := by decide +kernel
theorem dX4_allReadings_5 : decode cX4_allReadings 5 = .ok (.aload_n 0, 1) := by decide +kernel
theorem dX4_allReadings_6 : decode cX4_allReadings 6 = .ok (.getfield 45, 3) := by decide +kernel
theorem dX4_allReadings_9 : decode cX4_allReadings 9 = .ok (.if_icmp .ge 30, 3) := by decide +kernel
theorem dX4_allReadings_12 : decode cX4_allReadings 12 = .ok (.iload_n 2, 1) := by decide +kernel
theorem dX4_allReadings_13 : decode cX4_allReadings 13 = .ok (.aload_n 0, 1) := by decide +kernel
theorem dX4_allReadings_14 : decode cX4_allReadings 14 = .ok (.getfield 23, 3) := by decide +kernel
theorem dX4_allReadings_17 : decode cX4_allReadings 17 = .ok (.arraylength, 1) := by decide +kernel
theorem dX4_allReadings_18 : decode cX4_allReadings 18 = .ok (.if_icmp .ge 21, 3) := by decide +kernel
theorem dX4_allReadings_21 : decode cX4_allReadings 21 = .ok (.iload_n 1, 1) := by decide +kernel
theorem dX4_allReadings_22 : decode cX4_allReadings 22 = .ok (.aload_n 0, 1) := by decide +kernel
theorem dX4_allReadings_23 : decode cX4_allReadings 23 = .ok (.getfield 23, 3) := by decide +kernel
theorem dX4_allReadings_26 : decode cX4_allReadings 26 = .ok (.iload_n 2, 1) := by decide +kernel
theorem dX4_allReadings_27 : decode cX4_allReadings 27 = .ok (.aaload, 1) := by decide +kernel
theorem dX4_allReadings_28 : decode cX4_allReadings 28 = .ok (.getfield 71, 3) := by decide +kernel
theorem dX4_allReadings_31 : decode cX4_allReadings 31 = .ok (.iadd, 1) := by decide +kernel
theorem dX4_allReadings_32 : decode cX4_allReadings 32 = .ok (.istore_n 1, 1) := by decide +kernel
theorem dX4_allReadings_33 : decode cX4_allReadings 33 = .ok (.iinc 2 1, 3) := by decide +kernel
theorem dX4_allReadings_36 : decode cX4_allReadings 36 = .ok (.goto (-32), 3) := by decide +kernel
theorem dX4_allReadings_39 : decode cX4_allReadings 39 = .ok (.iload_n 1, 1) := by decide +kernel
theorem dX4_allReadings_40 : decode cX4_allReadings 40 = .ok (.ireturn, 1) := by decide +kernel
theorem dX4_nextPlugged_0 : decode cX4_nextPlugged 0 = .ok (.iconst 1, 1) := by decide +kernel
theorem dX4_nextPlugged_1 : decode cX4_nextPlugged 1 = .ok (.istore_n 1, 1) := by decide +kernel
theorem dX4_nextPlugged_2 : decode cX4_nextPlugged 2 = .ok (.iload_n 1, 1) := by decide +kernel
theorem dX4_nextPlugged_3 : decode cX4_nextPlugged 3 = .ok (.bipush 12, 2) := by decide +kernel
theorem dX4_nextPlugged_5 : decode cX4_nextPlugged 5 = .ok (.if_icmp .gt 30, 3) := by decide +kernel
theorem dX4_nextPlugged_8 : decode cX4_nextPlugged 8 = .ok (.aload_n 0, 1) := by decide +kernel
theorem dX4_nextPlugged_9 : decode cX4_nextPlugged 9 = .ok (.aload_n 0, 1) := by decide +kernel
theorem dX4_nextPlugged_10 : decode cX4_nextPlugged 10 = .ok (.getfield 9, 3) := by decide +kernel
theorem dX4_nextPlugged_13 : decode cX4_nextPlugged 13 = .ok (.iload_n 1, 1) := by decide +kernel
theorem dX4_nextPlugged_14 : decode cX4_nextPlugged 14 = .ok (.iadd, 1) := by decide +kernel
theorem dX4_nextPlugged_15 : decode cX4_nextPlugged 15 = .ok (.bipush 12, 2) := by decide +kernel
theorem dX4_nextPlugged_17 : decode cX4_nextPlugged 17 = .ok (.irem, 1) := by decide +kernel
theorem dX4_nextPlugged_18 : decode cX4_nextPlugged 18 = .ok (.invokevirtual 61, 3) := by decide +kernel
theorem dX4_nextPlugged_21 : decode cX4_nextPlugged 21 = .ok (.istore_n 2, 1) := by decide +kernel
theorem dX4_nextPlugged_22 : decode cX4_nextPlugged 22 = .ok (.iload_n 2, 1) := by decide +kernel
theorem dX4_nextPlugged_23 : decode cX4_nextPlugged 23 = .ok (.iconst (-1), 1) := by decide +kernel
theorem dX4_nextPlugged_24 : decode cX4_nextPlugged 24 = .ok (.if_icmp .eq 5, 3) := by decide +kernel
theorem dX4_nextPlugged_27 : decode cX4_nextPlugged 27 = .ok (.iload_n 2, 1) := by decide +kernel
theorem dX4_nextPlugged_28 : decode cX4_nextPlugged 28 = .ok (.ireturn, 1) := by decide +kernel
theorem dX4_nextPlugged_29 : decode cX4_nextPlugged 29 = .ok (.iinc 1 1, 3) := by decide +kernel
theorem dX4_nextPlugged_32 : decode cX4_nextPlugged 32 = .ok (.goto (-30), 3) := by decide +kernel
theorem dX4_nextPlugged_35 : decode cX4_nextPlugged 35 = .ok (.iconst (-1), 1) := by decide +kernel
theorem dX4_nextPlugged_36 : decode cX4_nextPlugged 36 = .ok (.ireturn, 1) := by decide +kernel
theorem dX4_canBring_0 : decode cX4_canBring 0 = .ok (.aload_n 0, 1) := by decide +kernel
theorem dX4_canBring_1 : decode cX4_canBring 1 = .ok (.aload_n 1, 1) := by decide +kernel
theorem dX4_canBring_2 : decode cX4_canBring 2 = .ok (.getfield 55, 3) := by decide +kernel
theorem dX4_canBring_5 : decode cX4_canBring 5 = .ok (.invokevirtual 74, 3) := by decide +kernel
theorem dX4_canBring_8 : decode cX4_canBring 8 = .ok (.astore_n 3, 1) := by decide +kernel
theorem dX4_canBring_9 : decode cX4_canBring 9 = .ok (.aload_n 3, 1) := by decide +kernel
theorem dX4_canBring_10 : decode cX4_canBring 10 = .ok (.ifnull 15, 3) := by decide +kernel
theorem dX4_canBring_13 : decode cX4_canBring 13 = .ok (.aload_n 3, 1) := by decide +kernel
theorem dX4_canBring_14 : decode cX4_canBring 14 = .ok (.iload_n 2, 1) := by decide +kernel
theorem dX4_canBring_15 : decode cX4_canBring 15 = .ok (.invokevirtual 78, 3) := by decide +kernel
theorem dX4_canBring_18 : decode cX4_canBring 18 = .ok (.ifCond .eq 7, 3) := by decide +kernel
theorem dX4_canBring_21 : decode cX4_canBring 21 = .ok (.iconst 1, 1) := by decide +kernel
theorem dX4_canBring_22 : decode cX4_canBring 22 = .ok (.goto 4, 3) := by decide +kernel
theorem dX4_canBring_25 : decode cX4_canBring 25 = .ok (.iconst 0, 1) := by decide +kernel
theorem dX4_canBring_26 : decode cX4_canBring 26 = .ok (.ireturn, 1) := by decide +kernel
theorem dX4_baseFor_0 : decode cX4_baseFor 0 = .ok (.aload_n 0, 1) := by decide +kernel
theorem dX4_baseFor_1 : decode cX4_baseFor 1 = .ok (.aload_n 1, 1) := by decide +kernel
theorem dX4_baseFor_2 : decode cX4_baseFor 2 = .ok (.getfield 55, 3) := by decide +kernel
theorem dX4_baseFor_5 : decode cX4_baseFor 5 = .ok (.invokevirtual 74, 3) := by decide +kernel
theorem dX4_baseFor_8 : decode cX4_baseFor 8 = .ok (.astore 5, 2) := by decide +kernel
theorem dX4_baseFor_10 : decode cX4_baseFor 10 = .ok (.aload 5, 2) := by decide +kernel
theorem dX4_baseFor_12 : decode cX4_baseFor 12 = .ok (.ifnonnull 7, 3) := by decide +kernel
theorem dX4_baseFor_15 : decode cX4_baseFor 15 = .ok (.lconst 0, 1) := by decide +kernel
theorem dX4_baseFor_16 : decode cX4_baseFor 16 = .ok (.goto 11, 3) := by decide +kernel
theorem dX4_baseFor_19 : decode cX4_baseFor 19 = .ok (.aload 5, 2) := by decide +kernel
theorem dX4_baseFor_21 : decode cX4_baseFor 21 = .ok (.iload 4, 2) := by decide +kernel
theorem dX4_baseFor_23 : decode cX4_baseFor 23 = .ok (.invokevirtual 82, 3) := by decide +kernel
theorem dX4_baseFor_26 : decode cX4_baseFor 26 = .ok (.i2l, 1) := by decide +kernel
theorem dX4_baseFor_27 : decode cX4_baseFor 27 = .ok (.lstore 6, 2) := by decide +kernel
theorem dX4_baseFor_29 : decode cX4_baseFor 29 = .ok (.lload 6, 2) := by decide +kernel
theorem dX4_baseFor_31 : decode cX4_baseFor 31 = .ok (.lconst 0, 1) := by decide +kernel
theorem dX4_baseFor_32 : decode cX4_baseFor 32 = .ok (.lcmp, 1) := by decide +kernel
theorem dX4_baseFor_33 : decode cX4_baseFor 33 = .ok (.ifCond .gt 7, 3) := by decide +kernel
theorem dX4_baseFor_36 : decode cX4_baseFor 36 = .ok (.lconst 0, 1) := by decide +kernel
theorem dX4_baseFor_37 : decode cX4_baseFor 37 = .ok (.goto 11, 3) := by decide +kernel
theorem dX4_baseFor_40 : decode cX4_baseFor 40 = .ok (.lload_n 2, 1) := by decide +kernel
theorem dX4_baseFor_41 : decode cX4_baseFor 41 = .ok (.ldc2_w 85, 3) := by decide +kernel
theorem dX4_baseFor_44 : decode cX4_baseFor 44 = .ok (.lmul, 1) := by decide +kernel
theorem dX4_baseFor_45 : decode cX4_baseFor 45 = .ok (.lload 6, 2) := by decide +kernel
theorem dX4_baseFor_47 : decode cX4_baseFor 47 = .ok (.ldiv, 1) := by decide +kernel
theorem dX4_baseFor_48 : decode cX4_baseFor 48 = .ok (.lreturn, 1) := by decide +kernel
theorem dX5_init_0 : decode cX5_init 0 = .ok (.aload_n 0, 1) := by decide +kernel
theorem dX5_init_1 : decode cX5_init 1 = .ok (.invokespecial 3, 3) := by decide +kernel
theorem dX5_init_4 : decode cX5_init 4 = .ok (.aload_n 0, 1) := by decide +kernel
theorem dX5_init_5 : decode cX5_init 5 = .ok (.bipush 12, 2) := by decide +kernel
theorem dX5_init_7 : decode cX5_init 7 = .ok (.newarray .int, 2) := by decide +kernel
theorem dX5_init_9 : decode cX5_init 9 = .ok (.putfield 9, 3) := by decide +kernel
theorem dX5_init_12 : decode cX5_init 12 = .ok (.aload_n 0, 1) := by decide +kernel
theorem dX5_init_13 : decode cX5_init 13 = .ok (.bipush 12, 2) := by decide +kernel
theorem dX5_init_15 : decode cX5_init 15 = .ok (.newarray .int, 2) := by decide +kernel
theorem dX5_init_17 : decode cX5_init 17 = .ok (.putfield 15, 3) := by decide +kernel
theorem dX5_init_20 : decode cX5_init 20 = .ok (.return_, 1) := by decide +kernel
theorem dX5_copy_0 : decode cX5_copy 0 = .ok (.aload_n 0, 1) := by decide +kernel
theorem dX5_copy_1 : decode cX5_copy 1 = .ok (.aload_n 1, 1) := by decide +kernel
theorem dX5_copy_2 : decode cX5_copy 2 = .ok (.getfield 18, 3) := by decide +kernel
theorem dX5_copy_5 : decode cX5_copy 5 = .ok (.putfield 18, 3) := by decide +kernel
theorem dX5_copy_8 : decode cX5_copy 8 = .ok (.aload_n 1, 1) := by decide +kernel
theorem dX5_copy_9 : decode cX5_copy 9 = .ok (.getfield 9, 3) := by decide +kernel
theorem dX5_copy_12 : decode cX5_copy 12 = .ok (.iconst 0, 1) := by decide +kernel
theorem dX5_copy_13 : decode cX5_copy 13 = .ok (.aload_n 0, 1) := by decide +kernel
theorem dX5_copy_14 : decode cX5_copy 14 = .ok (.getfield 9, 3) := by decide +kernel
theorem dX5_copy_17 : decode cX5_copy 17 = .ok (.iconst 0, 1) := by decide +kernel
theorem dX5_copy_18 : decode cX5_copy 18 = .ok (.bipush 12, 2) := by decide +kernel
theorem dX5_copy_20 : decode cX5_copy 20 = .ok (.invokestatic 22, 3) := by decide +kernel
theorem dX5_copy_23 : decode cX5_copy 23 = .ok (.aload_n 1, 1) := by decide +kernel
theorem dX5_copy_24 : decode cX5_copy 24 = .ok (.getfield 15, 3) := by decide +kernel
theorem dX5_copy_27 : decode cX5_copy 27 = .ok (.iconst 0, 1) := by decide +kernel
theorem dX5_copy_28 : decode cX5_copy 28 = .ok (.aload_n 0, 1) := by decide +kernel
theorem dX5_copy_29 : decode cX5_copy 29 = .ok (.getfield 15, 3) := by decide +kernel
theorem dX5_copy_32 : decode cX5_copy 32 = .ok (.iconst 0, 1) := by decide +kernel
theorem dX5_copy_33 : decode cX5_copy 33 = .ok (.bipush 12, 2) := by decide +kernel
theorem dX5_copy_35 : decode cX5_copy 35 = .ok (.invokestatic 22, 3) := by decide +kernel
theorem dX5_copy_38 : decode cX5_copy 38 = .ok (.return_, 1) := by decide +kernel
theorem dX5_temperatureOf_0 : decode cX5_temperatureOf 0 = .ok (.iload_n 1, 1) := by decide +kernel
theorem dX5_temperatureOf_1 : decode cX5_temperatureOf 1 = .ok (.ifCond .lt 21, 3) := by decide +kernel
theorem dX5_temperatureOf_4 : decode cX5_temperatureOf 4 = .ok (.iload_n 1, 1) := by decide +kernel
theorem dX5_temperatureOf_5 : decode cX5_temperatureOf 5 = .ok (.aload_n 0, 1) := by decide +kernel
theorem dX5_temperatureOf_6 : decode cX5_temperatureOf 6 = .ok (.getfield 9, 3) := by decide +kernel
theorem dX5_temperatureOf_9 : decode cX5_temperatureOf 9 = .ok (.arraylength, 1) := by decide +kernel
theorem dX5_temperatureOf_10 : decode cX5_temperatureOf 10 = .ok (.if_icmp .ge 12, 3) := by decide +kernel
theorem dX5_temperatureOf_13 : decode cX5_temperatureOf 13 = .ok (.aload_n 0, 1) := by decide +kernel
theorem dX5_temperatureOf_14 : decode cX5_temperatureOf 14 = .ok (.getfield 9, 3) := by decide +kernel
theorem dX5_temperatureOf_17 : decode cX5_temperatureOf 17 = .ok (.iload_n 1, 1) := by decide +kernel
theorem dX5_temperatureOf_18 : decode cX5_temperatureOf 18 = .ok (.iaload, 1) := by decide +kernel
theorem dX5_temperatureOf_19 : decode cX5_temperatureOf 19 = .ok (.goto 4, 3) := by decide +kernel
theorem dX5_temperatureOf_22 : decode cX5_temperatureOf 22 = .ok (.iconst 0, 1) := by decide +kernel
theorem dX5_temperatureOf_23 : decode cX5_temperatureOf 23 = .ok (.ireturn, 1) := by decide +kernel
theorem dX5_ratioOf_0 : decode cX5_ratioOf 0 = .ok (.iload_n 1, 1) := by decide +kernel
theorem dX5_ratioOf_1 : decode cX5_ratioOf 1 = .ok (.ifCond .lt 21, 3) := by decide +kernel
theorem dX5_ratioOf_4 : decode cX5_ratioOf 4 = .ok (.iload_n 1, 1) := by decide +kernel
theorem dX5_ratioOf_5 : decode cX5_ratioOf 5 = .ok (.aload_n 0, 1) := by decide +kernel
theorem dX5_ratioOf_6 : decode cX5_ratioOf 6 = .ok (.getfield 15, 3) := by decide +kernel
theorem dX5_ratioOf_9 : decode cX5_ratioOf 9 = .ok (.arraylength, 1) := by decide +kernel
theorem dX5_ratioOf_10 : decode cX5_ratioOf 10 = .ok (.if_icmp .ge 12, 3) := by decide +kernel
theorem dX5_ratioOf_13 : decode cX5_ratioOf 13 = .ok (.aload_n 0, 1) := by decide +kernel
theorem dX5_ratioOf_14 : decode cX5_ratioOf 14 = .ok (.getfield 15, 3) := by decide +kernel
theorem dX5_ratioOf_17 : decode cX5_ratioOf 17 = .ok (.iload_n 1, 1) := by decide +kernel
theorem dX5_ratioOf_18 : decode cX5_ratioOf 18 = .ok (.iaload, 1) := by decide +kernel
theorem dX5_ratioOf_19 : decode cX5_ratioOf 19 = .ok (.goto 4, 3) := by decide +kernel
theorem dX5_ratioOf_22 : decode cX5_ratioOf 22 = .ok (.iconst 0, 1) := by decide +kernel
theorem dX5_ratioOf_23 : decode cX5_ratioOf 23 = .ok (.ireturn, 1) := by decide +kernel
theorem dX5_mayGoOn_0 : decode cX5_mayGoOn 0 = .ok (.aload_n 0, 1) := by decide +kernel
theorem dX5_mayGoOn_1 : decode cX5_mayGoOn 1 = .ok (.getfield 18, 3) := by decide +kernel
theorem dX5_mayGoOn_4 : decode cX5_mayGoOn 4 = .ok (.ifCond .eq 31, 3) := by decide +kernel
theorem dX5_mayGoOn_7 : decode cX5_mayGoOn 7 = .ok (.iload_n 1, 1) := by decide +kernel
theorem dX5_mayGoOn_8 : decode cX5_mayGoOn 8 = .ok (.aload_n 0, 1) := by decide +kernel
theorem dX5_mayGoOn_9 : decode cX5_mayGoOn 9 = .ok (.aload_n 0, 1) := by decide +kernel
theorem dX5_mayGoOn_10 : decode cX5_mayGoOn 10 = .ok (.getfield 18, 3) := by decide +kernel
theorem dX5_mayGoOn_13 : decode cX5_mayGoOn 13 = .ok (.iconst 1, 1) := by decide +kernel
theorem dX5_mayGoOn_14 : decode cX5_mayGoOn 14 = .ok (.isub, 1) := by decide +kernel
theorem dX5_mayGoOn_15 : decode cX5_mayGoOn 15 = .ok (.invokevirtual 28, 3) := by decide +kernel
theorem dX5_mayGoOn_18 : decode cX5_mayGoOn 18 = .ok (.if_icmp .le 21, 3) := by decide +kernel
theorem dX5_mayGoOn_21 : decode cX5_mayGoOn 21 = .ok (.iload_n 2, 1) := by decide +kernel
theorem dX5_mayGoOn_22 : decode cX5_mayGoOn 22 = .ok (.aload_n 0, 1) := by decide +kernel
theorem dX5_mayGoOn_23 : decode cX5_mayGoOn 23 = .ok (.aload_n 0, 1) := by decide +kernel
theorem dX5_mayGoOn_24 : decode cX5_mayGoOn 24 = .ok (.getfield 18, 3) := by decide +kernel
theorem dX5_mayGoOn_27 : decode cX5_mayGoOn 27 = .ok (.iconst 1, 1) := by decide +kernel
theorem dX5_mayGoOn_28 : decode cX5_mayGoOn 28 = .ok (.isub, 1) := by decide +kernel
theorem dX5_mayGoOn_29 : decode cX5_mayGoOn 29 = .ok (.invokevirtual 32, 3) := by decide +kernel
theorem dX5_mayGoOn_32 : decode cX5_mayGoOn 32 = .ok (.if_icmp .le 7, 3) := by decide +kernel
theorem dX5_mayGoOn_35 : decode cX5_mayGoOn 35 = .ok (.iconst 1, 1) := by decide +kernel
theorem dX5_mayGoOn_36 : decode cX5_mayGoOn 36 = .ok (.goto 4, 3) := by decide +kernel
theorem dX5_mayGoOn_39 : decode cX5_mayGoOn 39 = .ok (.iconst 0, 1) := by decide +kernel
theorem dX5_mayGoOn_40 : decode cX5_mayGoOn 40 = .ok (.ireturn, 1) := by decide +kernel
theorem dX5_append_0 : decode cX5_append 0 = .ok (.aload_n 0, 1) := by decide +kernel
theorem dX5_append_1 : decode cX5_append 1 = .ok (.getfield 18, 3) := by decide +kernel
theorem dX5_append_4 : decode cX5_append 4 = .ok (.ifCond .lt 57, 3) := by decide +kernel
theorem dX5_append_7 : decode cX5_append 7 = .ok (.aload_n 0, 1) := by decide +kernel
theorem dX5_append_8 : decode cX5_append 8 = .ok (.getfield 18, 3) := by decide +kernel
theorem dX5_append_11 : decode cX5_append 11 = .ok (.aload_n 0, 1) := by decide +kernel
theorem dX5_append_12 : decode cX5_append 12 = .ok (.getfield 9, 3) := by decide +kernel
theorem dX5_append_15 : decode cX5_append 15 = .ok (.arraylength, 1) := by decide +kernel
theorem dX5_append_16 : decode cX5_append 16 = .ok (.if_icmp .ge 45, 3) := by decide +kernel
theorem dX5_append_19 : decode cX5_append 19 = .ok (.aload_n 0, 1) := by decide +kernel
theorem dX5_append_20 : decode cX5_append 20 = .ok (.getfield 18, 3) := by decide +kernel
theorem dX5_append_23 : decode cX5_append 23 = .ok (.aload_n 0, 1) := by decide +kernel
theorem dX5_append_24 : decode cX5_append 24 = .ok (.getfield 15, 3) := by decide +kernel
theorem dX5_append_27 : decode cX5_append 27 = .ok (.arraylength, 1) := by decide +kernel
theorem dX5_append_28 : decode cX5_append 28 = .ok (.if_icmp .ge 33, 3) := by decide +kernel
theorem dX5_append_31 : decode cX5_append 31 = .ok (.aload_n 0, 1) := by decide +kernel
theorem dX5_append_32 : decode cX5_append 32 = .ok (.getfield 9, 3) := by decide +kernel
theorem dX5_append_35 : decode cX5_append 35 = .ok (.aload_n 0, 1) := by decide +kernel
theorem dX5_append_36 : decode cX5_append 36 = .ok (.getfield 18, 3) := by decide +kernel
theorem dX5_append_39 : decode cX5_append 39 = .ok (.iload_n 1, 1) := by decide +kernel
theorem dX5_append_40 : decode cX5_append 40 = .ok (.iastore, 1) := by decide +kernel
theorem dX5_append_41 : decode cX5_append 41 = .ok (.aload_n 0, 1) := by decide +kernel
theorem dX5_append_42 : decode cX5_append 42 = .ok (.getfield 15, 3) := by decide +kernel
theorem dX5_append_45 : decode cX5_append 45 = .ok (.aload_n 0, 1) := by decide +kernel
theorem dX5_append_46 : decode cX5_append 46 = .ok (.getfield 18, 3) := by decide +kernel
theorem dX5_append_49 : decode cX5_append 49 = .ok (.iload_n 2, 1) := by decide +kernel
theorem dX5_append_50 : decode cX5_append 50 = .ok (.iastore, 1) := by decide +kernel
theorem dX5_append_51 : decode cX5_append 51 = .ok (.aload_n 0, 1) := by decide +kernel
theorem dX5_append_52 : decode cX5_append 52 = .ok (.dup, 1) := by decide +kernel
theorem dX5_append_53 : decode cX5_append 53 = .ok (.getfield 18, 3) := by decide +kernel
theorem dX5_append_56 : decode cX5_append 56 = .ok (.iconst 1, 1) := by decide +kernel
theorem dX5_append_57 : decode cX5_append 57 = .ok (.iadd, 1) := by decide +kernel
theorem dX5_append_58 : decode cX5_append 58 = .ok (.putfield 18, 3) := by decide +kernel
theorem dX5_append_61 : decode cX5_append 61 = .ok (.return_, 1) := by decide +kernel
theorem dX5_goesTo_0 : decode cX5_goesTo 0 = .ok (.aload_n 0, 1) := by decide +kernel
theorem dX5_goesTo_1 : decode cX5_goesTo 1 = .ok (.getfield 18, 3) := by decide +kernel
theorem dX5_goesTo_4 : decode cX5_goesTo 4 = .ok (.iconst 2, 1) := by decide +kernel
theorem dX5_goesTo_5 : decode cX5_goesTo 5 = .ok (.if_icmp .lt 30, 3) := by decide +kernel
theorem dX5_goesTo_8 : decode cX5_goesTo 8 = .ok (.iload_n 1, 1) := by decide +kernel
theorem dX5_goesTo_9 : decode cX5_goesTo 9 = .ok (.aload_n 0, 1) := by decide +kernel
theorem dX5_goesTo_10 : decode cX5_goesTo 10 = .ok (.iconst 0, 1) := by decide +kernel
theorem dX5_goesTo_11 : decode cX5_goesTo 11 = .ok (.invokevirtual 28, 3) := by decide +kernel
theorem dX5_goesTo_14 : decode cX5_goesTo 14 = .ok (.if_icmp .lt 21, 3) := by decide +kernel
theorem dX5_goesTo_17 : decode cX5_goesTo 17 = .ok (.iload_n 1, 1) := by decide +kernel
theorem dX5_goesTo_18 : decode cX5_goesTo 18 = .ok (.aload_n 0, 1) := by decide +kernel
theorem dX5_goesTo_19 : decode cX5_goesTo 19 = .ok (.aload_n 0, 1) := by decide +kernel
theorem dX5_goesTo_20 : decode cX5_goesTo 20 = .ok (.getfield 18, 3) := by decide +kernel
theorem dX5_goesTo_23 : decode cX5_goesTo 23 = .ok (.iconst 1, 1) := by decide +kernel
theorem dX5_goesTo_24 : decode cX5_goesTo 24 = .ok (.isub, 1) := by decide +kernel
theorem dX5_goesTo_25 : decode cX5_goesTo 25 = .ok (.invokevirtual 28, 3) := by decide +kernel
theorem dX5_goesTo_28 : decode cX5_goesTo 28 = .ok (.if_icmp .gt 7, 3) := by decide +kernel
theorem dX5_goesTo_31 : decode cX5_goesTo 31 = .ok (.iconst 1, 1) := by decide +kernel
theorem dX5_goesTo_32 : decode cX5_goesTo 32 = .ok (.goto 4, 3) := by decide +kernel
theorem dX5_goesTo_35 : decode cX5_goesTo 35 = .ok (.iconst 0, 1) := by decide +kernel
theorem dX5_goesTo_36 : decode cX5_goesTo 36 = .ok (.ireturn, 1) := by decide +kernel
theorem dX5_nearest_0 : decode cX5_nearest 0 = .ok (.iload_n 1, 1) := by decide +kernel
theorem dX5_nearest_1 : decode cX5_nearest 1 = .ok (.aload_n 0, 1) := by decide +kernel
theorem dX5_nearest_2 : decode cX5_nearest 2 = .ok (.iconst 0, 1) := by decide +kernel
theorem dX5_nearest_3 : decode cX5_nearest 3 = .ok (.invokevirtual 28, 3) := by decide +kernel
theorem dX5_nearest_6 : decode cX5_nearest 6 = .ok (.invokestatic 35, 3) := by decide +kernel
theorem dX5_nearest_9 : decode cX5_nearest 9 = .ok (.aload_n 0, 1) := by decide +kernel
theorem dX5_nearest_10 : decode cX5_nearest 10 = .ok (.aload_n 0, 1) := by decide +kernel
theorem dX5_nearest_11 : decode cX5_nearest 11 = .ok (.getfield 18, 3) := by decide +kernel
theorem dX5_nearest_14 : decode cX5_nearest 14 = .ok (.iconst 1, 1) := by decide +kernel
theorem dX5_nearest_15 : decode cX5_nearest 15 = .ok (.isub, 1) := by decide +kernel
theorem dX5_nearest_16 : decode cX5_nearest 16 = .ok (.invokevirtual 28, 3) := by decide +kernel
theorem dX5_nearest_19 : decode cX5_nearest 19 = .ok (.invokestatic 41, 3) := by decide +kernel
theorem dX5_nearest_22 : decode cX5_nearest 22 = .ok (.ireturn, 1) := by decide +kernel
theorem dX5_ratioAt_0 : decode cX5_ratioAt 0 = .ok (.iconst 1, 1) := by decide +kernel
theorem dX5_ratioAt_1 : decode cX5_ratioAt 1 = .ok (.istore_n 2, 1) := by decide +kernel
theorem dX5_ratioAt_2 : decode cX5_ratioAt 2 = .ok (.iload_n 2, 1) := by decide +kernel
theorem dX5_ratioAt_3 : decode cX5_ratioAt 3 = .ok (.aload_n 0, 1) := by decide +kernel
theorem dX5_ratioAt_4 : decode cX5_ratioAt 4 = .ok (.getfield 18, 3) := by decide +kernel
theorem dX5_ratioAt_7 : decode cX5_ratioAt 7 = .ok (.if_icmp .ge 101, 3) := by decide +kernel
theorem dX5_ratioAt_10 : decode cX5_ratioAt 10 = .ok (.iload_n 2, 1) := by decide +kernel
theorem dX5_ratioAt_11 : decode cX5_ratioAt 11 = .ok (.bipush 12, 2) := by decide +kernel
theorem dX5_ratioAt_13 : decode cX5_ratioAt 13 = .ok (.if_icmp .ge 95, 3) := by decide +kernel
theorem dX5_ratioAt_16 : decode cX5_ratioAt 16 = .ok (.aload_n 0, 1) := by decide +kernel
theorem dX5_ratioAt_17 : decode cX5_ratioAt 17 = .ok (.getfield 9, 3) := by decide +kernel
theorem dX5_ratioAt_20 : decode cX5_ratioAt 20 = .ok (.iload_n 2, 1) := by decide +kernel
theorem dX5_ratioAt_21 : decode cX5_ratioAt 21 = .ok (.iaload, 1) := by decide +kernel
theorem dX5_ratioAt_22 : decode cX5_ratioAt 22 = .ok (.i2l, 1) := by decide +kernel
theorem dX5_ratioAt_23 : decode cX5_ratioAt 23 = .ok (.aload_n 0, 1) := by decide +kernel
theorem dX5_ratioAt_24 : decode cX5_ratioAt 24 = .ok (.getfield 9, 3) := by decide +kernel
theorem dX5_ratioAt_27 : decode cX5_ratioAt 27 = .ok (.iload_n 2, 1) := by decide +kernel
theorem dX5_ratioAt_28 : decode cX5_ratioAt 28 = .ok (.iconst 1, 1) := by decide +kernel
theorem dX5_ratioAt_29 : decode cX5_ratioAt 29 = .ok (.isub, 1) := by decide +kernel
theorem dX5_ratioAt_30 : decode cX5_ratioAt 30 = .ok (.iaload, 1) := by decide +kernel
theorem dX5_ratioAt_31 : decode cX5_ratioAt 31 = .ok (.i2l, 1) := by decide +kernel
theorem dX5_ratioAt_32 : decode cX5_ratioAt 32 = .ok (.lsub, 1) := by decide +kernel
theorem dX5_ratioAt_33 : decode cX5_ratioAt 33 = .ok (.lstore_n 3, 1) := by decide +kernel
theorem dX5_ratioAt_34 : decode cX5_ratioAt 34 = .ok (.aload_n 0, 1) := by decide +kernel
theorem dX5_ratioAt_35 : decode cX5_ratioAt 35 = .ok (.getfield 9, 3) := by decide +kernel
theorem dX5_ratioAt_38 : decode cX5_ratioAt 38 = .ok (.iload_n 2, 1) := by decide +kernel
theorem dX5_ratioAt_39 : decode cX5_ratioAt 39 = .ok (.iaload, 1) := by decide +kernel
theorem dX5_ratioAt_40 : decode cX5_ratioAt 40 = .ok (.iload_n 1, 1) := by decide +kernel
theorem dX5_ratioAt_41 : decode cX5_ratioAt 41 = .ok (.if_icmp .lt 61, 3) := by decide +kernel
theorem dX5_ratioAt_44 : decode cX5_ratioAt 44 = .ok (.lload_n 3, 1) := by decide +kernel
theorem dX5_ratioAt_45 : decode cX5_ratioAt 45 = .ok (.lconst 0, 1) := by decide +kernel
theorem dX5_ratioAt_46 : decode cX5_ratioAt 46 = .ok (.lcmp, 1) := by decide +kernel
theorem dX5_ratioAt_47 : decode cX5_ratioAt 47 = .ok (.ifCond .le 55, 3) := by decide +kernel
theorem dX5_ratioAt_50 : decode cX5_ratioAt 50 = .ok (.iload_n 1, 1) := by decide +kernel
theorem dX5_ratioAt_51 : decode cX5_ratioAt 51 = .ok (.i2l, 1) := by decide +kernel
theorem dX5_ratioAt_52 : decode cX5_ratioAt 52 = .ok (.aload_n 0, 1) := by decide +kernel
theorem dX5_ratioAt_53 : decode cX5_ratioAt 53 = .ok (.getfield 9, 3) := by decide +kernel
theorem dX5_ratioAt_56 : decode cX5_ratioAt 56 = .ok (.iload_n 2, 1) := by decide +kernel
theorem dX5_ratioAt_57 : decode cX5_ratioAt 57 = .ok (.iconst 1, 1) := by decide +kernel
theorem dX5_ratioAt_58 : decode cX5_ratioAt 58 = .ok (.isub, 1) := by decide +kernel
theorem dX5_ratioAt_59 : decode cX5_ratioAt 59 = .ok (.iaload, 1) := by decide +kernel
theorem dX5_ratioAt_60 : decode cX5_ratioAt 60 = .ok (.i2l, 1) := by decide +kernel
theorem dX5_ratioAt_61 : decode cX5_ratioAt 61 = .ok (.lsub, 1) := by decide +kernel
theorem dX5_ratioAt_62 : decode cX5_ratioAt 62 = .ok (.lstore 5, 2) := by decide +kernel
theorem dX5_ratioAt_64 : decode cX5_ratioAt 64 = .ok (.aload_n 0, 1) := by decide +kernel
theorem dX5_ratioAt_65 : decode cX5_ratioAt 65 = .ok (.getfield 15, 3) := by decide +kernel
theorem dX5_ratioAt_68 : decode cX5_ratioAt 68 = .ok (.iload_n 2, 1) := by decide +kernel
theorem dX5_ratioAt_69 : decode cX5_ratioAt 69 = .ok (.iaload, 1) := by decide +kernel
theorem dX5_ratioAt_70 : decode cX5_ratioAt 70 = .ok (.i2l, 1) := by decide +kernel
theorem dX5_ratioAt_71 : decode cX5_ratioAt 71 = .ok (.aload_n 0, 1) := by decide +kernel
theorem dX5_ratioAt_72 : decode cX5_ratioAt 72 = .ok (.getfield 15, 3) := by decide +kernel
theorem dX5_ratioAt_75 : decode cX5_ratioAt 75 = .ok (.iload_n 2, 1) := by decide +kernel
theorem dX5_ratioAt_76 : decode cX5_ratioAt 76 = .ok (.iconst 1, 1) := by decide +kernel
theorem dX5_ratioAt_77 : decode cX5_ratioAt 77 = .ok (.isub, 1) := by decide +kernel
theorem dX5_ratioAt_78 : decode cX5_ratioAt 78 = .ok (.iaload, 1) := by decide +kernel
theorem dX5_ratioAt_79 : decode cX5_ratioAt 79 = .ok (.i2l, 1) := by decide +kernel
theorem dX5_ratioAt_80 : decode cX5_ratioAt 80 = .ok (.lsub, 1) := by decide +kernel
theorem dX5_ratioAt_81 : decode cX5_ratioAt 81 = .ok (.lstore 7, 2) := by decide +kernel
theorem dX5_ratioAt_83 : decode cX5_ratioAt 83 = .ok (.aload_n 0, 1) := by decide +kernel
theorem dX5_ratioAt_84 : decode cX5_ratioAt 84 = .ok (.getfield 15, 3) := by decide +kernel
theorem dX5_ratioAt_87 : decode cX5_ratioAt 87 = .ok (.iload_n 2, 1) := by decide +kernel
theorem dX5_ratioAt_88 : decode cX5_ratioAt 88 = .ok (.iconst 1, 1) := by decide +kernel
theorem dX5_ratioAt_89 : decode cX5_ratioAt 89 = .ok (.isub, 1) := by decide +kernel
theorem dX5_ratioAt_90 : decode cX5_ratioAt 90 = .ok (.iaload, 1) := by decide +kernel
theorem dX5_ratioAt_91 : decode cX5_ratioAt 91 = .ok (.i2l, 1) := by decide +kernel
theorem dX5_ratioAt_92 : decode cX5_ratioAt 92 = .ok (.lload 7, 2) := by decide +kernel
theorem dX5_ratioAt_94 : decode cX5_ratioAt 94 = .ok (.lload 5, 2) := by decide +kernel
theorem dX5_ratioAt_96 : decode cX5_ratioAt 96 = .ok (.lmul, 1) := by decide +kernel
theorem dX5_ratioAt_97 : decode cX5_ratioAt 97 = .ok (.lload_n 3, 1) := by decide +kernel
theorem dX5_ratioAt_98 : decode cX5_ratioAt 98 = .ok (.ldiv, 1) := by decide +kernel
theorem dX5_ratioAt_99 : decode cX5_ratioAt 99 = .ok (.ladd, 1) := by decide +kernel
theorem dX5_ratioAt_100 : decode cX5_ratioAt 100 = .ok (.l2i, 1) := by decide +kernel
theorem dX5_ratioAt_101 : decode cX5_ratioAt 101 = .ok (.ireturn, 1) := by decide +kernel
theorem dX5_ratioAt_102 : decode cX5_ratioAt 102 = .ok (.iinc 2 1, 3) := by decide +kernel
theorem dX5_ratioAt_105 : decode cX5_ratioAt 105 = .ok (.goto (-103), 3) := by decide +kernel
theorem dX5_ratioAt_108 : decode cX5_ratioAt 108 = .ok (.iconst 0, 1) := by decide +kernel
theorem dX5_ratioAt_109 : decode cX5_ratioAt 109 = .ok (.ireturn, 1) := by decide +kernel
theorem dX5_temperatureFor_0 : decode cX5_temperatureFor 0 = .ok (.aload_n 0, 1) := by decide +kernel
theorem dX5_temperatureFor_1 : decode cX5_temperatureFor 1 = .ok (.getfield 18, 3) := by decide +kernel
theorem dX5_temperatureFor_4 : decode cX5_temperatureFor 4 = .ok (.iconst 2, 1) := by decide +kernel
theorem dX5_temperatureFor_5 : decode cX5_temperatureFor 5 = .ok (.if_icmp .lt 30, 3) := by decide +kernel
theorem dX5_temperatureFor_8 : decode cX5_temperatureFor 8 = .ok (.lload_n 1, 1) := by decide +kernel
theorem dX5_temperatureFor_9 : decode cX5_temperatureFor 9 = .ok (.aload_n 0, 1) := by decide +kernel
theorem dX5_temperatureFor_10 : decode cX5_temperatureFor 10 = .ok (.iconst 0, 1) := by decide +kernel
theorem dX5_temperatureFor_11 : decode cX5_temperatureFor 11 = .ok (.invokevirtual 32, 3) := by decide +kernel
theorem dX5_temperatureFor_14 : decode cX5_temperatureFor 14 = .ok (.i2l, 1) := by decide +kernel
theorem dX5_temperatureFor_15 : decode cX5_temperatureFor 15 = .ok (.lcmp, 1) := by decide +kernel
theorem dX5_temperatureFor_16 : decode cX5_temperatureFor 16 = .ok (.ifCond .lt 19, 3) := by decide +kernel
theorem dX5_temperatureFor_19 : decode cX5_temperatureFor 19 = .ok (.lload_n 1, 1) := by decide +kernel
theorem dX5_temperatureFor_20 : decode cX5_temperatureFor 20 = .ok (.aload_n 0, 1) := by decide +kernel
theorem dX5_temperatureFor_21 : decode cX5_temperatureFor 21 = .ok (.aload_n 0, 1) := by decide +kernel
theorem dX5_temperatureFor_22 : decode cX5_temperatureFor 22 = .ok (.getfield 18, 3) := by decide +kernel
theorem dX5_temperatureFor_25 : decode cX5_temperatureFor 25 = .ok (.iconst 1, 1) := by decide +kernel
theorem dX5_temperatureFor_26 : decode cX5_temperatureFor 26 = .ok (.isub, 1) := by decide +kernel
theorem dX5_temperatureFor_27 : decode cX5_temperatureFor 27 = .ok (.invokevirtual 32, 3) := by decide +kernel
theorem dX5_temperatureFor_30 : decode cX5_temperatureFor 30 = .ok (.i2l, 1) := by decide +kernel
theorem dX5_temperatureFor_31 : decode cX5_temperatureFor 31 = .ok (.lcmp, 1) := by decide +kernel
theorem dX5_temperatureFor_32 : decode cX5_temperatureFor 32 = .ok (.ifCond .le 6, 3) := by decide +kernel
theorem dX5_temperatureFor_35 : decode cX5_temperatureFor 35 = .ok (.ldc 44, 2) := by decide +kernel
theorem dX5_temperatureFor_37 : decode cX5_temperatureFor 37 = .ok (.ireturn, 1) := by decide +kernel
theorem dX5_temperatureFor_38 : decode cX5_temperatureFor 38 = .ok (.aload_n 0, 1) := by decide +kernel
theorem dX5_temperatureFor_39 : decode cX5_temperatureFor 39 = .ok (.iconst 0, 1) := by decide +kernel
theorem dX5_temperatureFor_40 : decode cX5_temperatureFor 40 = .ok (.invokevirtual 28, 3) := by decide +kernel
theorem dX5_temperatureFor_43 : decode cX5_temperatureFor 43 = .ok (.istore_n 3, 1) := by decide +kernel
theorem dX5_temperatureFor_44 : decode cX5_temperatureFor 44 = .ok (.aload_n 0, 1) := by decide +kernel
theorem dX5_temperatureFor_45 : decode cX5_temperatureFor 45 = .ok (.aload_n 0, 1) := by decide +kernel
theorem dX5_temperatureFor_46 : decode cX5_temperatureFor 46 = .ok (.getfield 18, 3) := by decide +kernel
theorem dX5_temperatureFor_49 : decode cX5_temperatureFor 49 = .ok (.iconst 1, 1) := by decide +kernel
theorem dX5_temperatureFor_50 : decode cX5_temperatureFor 50 = .ok (.isub, 1) := by decide +kernel
theorem dX5_temperatureFor_51 : decode cX5_temperatureFor 51 = .ok (.invokevirtual 28, 3) := by decide +kernel
theorem dX5_temperatureFor_54 : decode cX5_temperatureFor 54 = .ok (.istore 4, 2) := by decide +kernel
theorem dX5_temperatureFor_56 : decode cX5_temperatureFor 56 = .ok (.iconst 0, 1) := by decide +kernel
theorem dX5_temperatureFor_57 : decode cX5_temperatureFor 57 = .ok (.istore 5, 2) := by decide +kernel
theorem dX5_temperatureFor_59 : decode cX5_temperatureFor 59 = .ok (.iload 5, 2) := by decide +kernel
theorem dX5_temperatureFor_61 : decode cX5_temperatureFor 61 = .ok (.bipush 32, 2) := by decide +kernel
theorem dX5_temperatureFor_63 : decode cX5_temperatureFor 63 = .ok (.if_icmp .ge 49, 3) := by decide +kernel
theorem dX5_temperatureFor_66 : decode cX5_temperatureFor 66 = .ok (.iload_n 3, 1) := by decide +kernel
theorem dX5_temperatureFor_67 : decode cX5_temperatureFor 67 = .ok (.iload 4, 2) := by decide +kernel
theorem dX5_temperatureFor_69 : decode cX5_temperatureFor 69 = .ok (.if_icmp .ge 43, 3) := by decide +kernel
theorem dX5_temperatureFor_72 : decode cX5_temperatureFor 72 = .ok (.iload_n 3, 1) := by decide +kernel
theorem dX5_temperatureFor_73 : decode cX5_temperatureFor 73 = .ok (.iload 4, 2) := by decide +kernel
theorem dX5_temperatureFor_75 : decode cX5_temperatureFor 75 = .ok (.iload_n 3, 1) := by decide +kernel
theorem dX5_temperatureFor_76 : decode cX5_temperatureFor 76 = .ok (.isub, 1) := by decide +kernel
theorem dX5_temperatureFor_77 : decode cX5_temperatureFor 77 = .ok (.iconst 2, 1) := by decide +kernel
theorem dX5_temperatureFor_78 : decode cX5_temperatureFor 78 = .ok (.idiv, 1) := by decide +kernel
theorem dX5_temperatureFor_79 : decode cX5_temperatureFor 79 = .ok (.iadd, 1) := by decide +kernel
theorem dX5_temperatureFor_80 : decode cX5_temperatureFor 80 = .ok (.istore 6, 2) := by decide +kernel
theorem dX5_temperatureFor_82 : decode cX5_temperatureFor 82 = .ok (.aload_n 0, 1) := by decide +kernel
theorem dX5_temperatureFor_83 : decode cX5_temperatureFor 83 = .ok (.iload 6, 2) := by decide +kernel
theorem dX5_temperatureFor_85 : decode cX5_temperatureFor 85 = .ok (.invokevirtual 45, 3) := by decide +kernel
theorem dX5_temperatureFor_88 : decode cX5_temperatureFor 88 = .ok (.i2l, 1) := by decide +kernel
theorem dX5_temperatureFor_89 : decode cX5_temperatureFor 89 = .ok (.lload_n 1, 1) := by decide +kernel
theorem dX5_temperatureFor_90 : decode cX5_temperatureFor 90 = .ok (.lcmp, 1) := by decide +kernel
theorem dX5_temperatureFor_91 : decode cX5_temperatureFor 91 = .ok (.ifCond .lt 10, 3) := by decide +kernel
theorem dX5_temperatureFor_94 : decode cX5_temperatureFor 94 = .ok (.iload 6, 2) := by decide +kernel
theorem dX5_temperatureFor_96 : decode cX5_temperatureFor 96 = .ok (.istore 4, 2) := by decide +kernel
theorem dX5_temperatureFor_98 : decode cX5_temperatureFor 98 = .ok (.goto 8, 3) := by decide +kernel
theorem dX5_temperatureFor_101 : decode cX5_temperatureFor 101 = .ok (.iload 6, 2) := by decide +kernel
theorem dX5_temperatureFor_103 : decode cX5_temperatureFor 103 = .ok (.iconst 1, 1) := by decide +kernel
theorem dX5_temperatureFor_104 : decode cX5_temperatureFor 104 = .ok (.iadd, 1) := by decide +kernel
theorem dX5_temperatureFor_105 : decode cX5_temperatureFor 105 = .ok (.istore_n 3, 1) := by decide +kernel
theorem dX5_temperatureFor_106 : decode cX5_temperatureFor 106 = .ok (.iinc 5 1, 3) := by decide +kernel
theorem dX5_temperatureFor_109 : decode cX5_temperatureFor 109 = .ok (.goto (-50), 3) := by decide +kernel
theorem dX5_temperatureFor_112 : decode cX5_temperatureFor 112 = .ok (.iload 4, 2) := by decide +kernel
theorem dX5_temperatureFor_114 : decode cX5_temperatureFor 114 = .ok (.ireturn, 1) := by decide +kernel
theorem dX6_init_0 : decode cX6_init 0 = .ok (.aload_n 0, 1) := by decide +kernel
theorem dX6_init_1 : decode cX6_init 1 = .ok (.invokespecial 3, 3) := by decide +kernel
theorem dX6_init_4 : decode cX6_init 4 = .ok (.aload_n 0, 1) := by decide +kernel
theorem dX6_init_5 : decode cX6_init 5 = .ok (.bipush 60, 2) := by decide +kernel
theorem dX6_init_7 : decode cX6_init 7 = .ok (.newarray .char, 2) := by decide +kernel
theorem dX6_init_9 : decode cX6_init 9 = .ok (.putfield 9, 3) := by decide +kernel
theorem dX6_init_12 : decode cX6_init 12 = .ok (.return_, 1) := by decide +kernel
theorem dX6_append_0 : decode cX6_append 0 = .ok (.aload_n 0, 1) := by decide +kernel
theorem dX6_append_1 : decode cX6_append 1 = .ok (.getfield 15, 3) := by decide +kernel
theorem dX6_append_4 : decode cX6_append 4 = .ok (.ifCond .lt 35, 3) := by decide +kernel
theorem dX6_append_7 : decode cX6_append 7 = .ok (.aload_n 0, 1) := by decide +kernel
theorem dX6_append_8 : decode cX6_append 8 = .ok (.getfield 15, 3) := by decide +kernel
theorem dX6_append_11 : decode cX6_append 11 = .ok (.aload_n 0, 1) := by decide +kernel
theorem dX6_append_12 : decode cX6_append 12 = .ok (.getfield 9, 3) := by decide +kernel
theorem dX6_append_15 : decode cX6_append 15 = .ok (.arraylength, 1) := by decide +kernel
theorem dX6_append_16 : decode cX6_append 16 = .ok (.if_icmp .ge 23, 3) := by decide +kernel
theorem dX6_append_19 : decode cX6_append 19 = .ok (.aload_n 0, 1) := by decide +kernel
theorem dX6_append_20 : decode cX6_append 20 = .ok (.getfield 9, 3) := by decide +kernel
theorem dX6_append_23 : decode cX6_append 23 = .ok (.aload_n 0, 1) := by decide +kernel
theorem dX6_append_24 : decode cX6_append 24 = .ok (.getfield 15, 3) := by decide +kernel
theorem dX6_append_27 : decode cX6_append 27 = .ok (.iload_n 1, 1) := by decide +kernel
theorem dX6_append_28 : decode cX6_append 28 = .ok (.castore, 1) := by decide +kernel
theorem dX6_append_29 : decode cX6_append 29 = .ok (.aload_n 0, 1) := by decide +kernel
theorem dX6_append_30 : decode cX6_append 30 = .ok (.dup, 1) := by decide +kernel
theorem dX6_append_31 : decode cX6_append 31 = .ok (.getfield 15, 3) := by decide +kernel
theorem dX6_append_34 : decode cX6_append 34 = .ok (.iconst 1, 1) := by decide +kernel
theorem dX6_append_35 : decode cX6_append 35 = .ok (.iadd, 1) := by decide +kernel
theorem dX6_append_36 : decode cX6_append 36 = .ok (.putfield 15, 3) := by decide +kernel
theorem dX6_append_39 : decode cX6_append 39 = .ok (.return_, 1) := by decide +kernel
theorem dX6_parse_0 : decode cX6_parse 0 = .ok (.aload_n 0, 1) := by decide +kernel
theorem dX6_parse_1 : decode cX6_parse 1 = .ok (.aload_n 0, 1) := by decide +kernel
theorem dX6_parse_2 : decode cX6_parse 2 = .ok (.iload_n 1, 1) := by decide +kernel
theorem dX6_parse_3 : decode cX6_parse 3 = .ok (.invokevirtual 19, 3) := by decide +kernel
theorem dX6_parse_6 : decode cX6_parse 6 = .ok (.putfield 23, 3) := by decide +kernel
theorem dX6_parse_9 : decode cX6_parse 9 = .ok (.aload_n 0, 1) := by decide +kernel
theorem dX6_parse_10 : decode cX6_parse 10 = .ok (.iload_n 1, 1) := by decide +kernel
theorem dX6_parse_11 : decode cX6_parse 11 = .ok (.iconst 1, 1) := by decide +kernel
theorem dX6_parse_12 : decode cX6_parse 12 = .ok (.iadd, 1) := by decide +kernel
theorem dX6_parse_13 : decode cX6_parse 13 = .ok (.putfield 27, 3) := by decide +kernel
theorem dX6_parse_16 : decode cX6_parse 16 = .ok (.aload_n 0, 1) := by decide +kernel
theorem dX6_parse_17 : decode cX6_parse 17 = .ok (.getfield 23, 3) := by decide +kernel
theorem dX6_parse_20 : decode cX6_parse 20 = .ok (.bipush 115, 2) := by decide +kernel
theorem dX6_parse_22 : decode cX6_parse 22 = .ok (.if_icmp .ne 10, 3) := by decide +kernel
theorem dX6_parse_25 : decode cX6_parse 25 = .ok (.aload_n 0, 1) := by decide +kernel
theorem dX6_parse_26 : decode cX6_parse 26 = .ok (.bipush 59, 2) := by decide +kernel
theorem dX6_parse_28 : decode cX6_parse 28 = .ok (.invokevirtual 30, 3) := by decide +kernel
theorem dX6_parse_31 : decode cX6_parse 31 = .ok (.ireturn, 1) := by decide +kernel
theorem dX6_parse_32 : decode cX6_parse 32 = .ok (.aload_n 0, 1) := by decide +kernel
theorem dX6_parse_33 : decode cX6_parse 33 = .ok (.getfield 23, 3) := by decide +kernel
theorem dX6_parse_36 : decode cX6_parse 36 = .ok (.bipush 116, 2) := by decide +kernel
theorem dX6_parse_38 : decode cX6_parse 38 = .ok (.if_icmp .eq 32, 3) := by decide +kernel
theorem dX6_parse_41 : decode cX6_parse 41 = .ok (.aload_n 0, 1) := by decide +kernel
theorem dX6_parse_42 : decode cX6_parse 42 = .ok (.getfield 23, 3) := by decide +kernel
theorem dX6_parse_45 : decode cX6_parse 45 = .ok (.bipush 114, 2) := by decide +kernel
theorem dX6_parse_47 : decode cX6_parse 47 = .ok (.if_icmp .eq 23, 3) := by decide +kernel
theorem dX6_parse_50 : decode cX6_parse 50 = .ok (.aload_n 0, 1) := by decide +kernel
theorem dX6_parse_51 : decode cX6_parse 51 = .ok (.getfield 23, 3) := by decide +kernel
theorem dX6_parse_54 : decode cX6_parse 54 = .ok (.bipush 98, 2) := by decide +kernel
theorem dX6_parse_56 : decode cX6_parse 56 = .ok (.if_icmp .eq 14, 3) := by decide +kernel
theorem dX6_parse_59 : decode cX6_parse 59 = .ok (.aload_n 0, 1) := by decide +kernel
theorem dX6_parse_60 : decode cX6_parse 60 = .ok (.getfield 23, 3) := by decide +kernel
theorem dX6_parse_63 : decode cX6_parse 63 = .ok (.bipush 109, 2) := by decide +kernel
theorem dX6_parse_65 : decode cX6_parse 65 = .ok (.if_icmp .eq 5, 3) := by decide +kernel
theorem dX6_parse_68 : decode cX6_parse 68 = .ok (.iconst 0, 1) := by decide +kernel
theorem dX6_parse_69 : decode cX6_parse 69 = .ok (.ireturn, 1) := by decide +kernel
theorem dX6_parse_70 : decode cX6_parse 70 = .ok (.aload_n 0, 1) := by decide +kernel
theorem dX6_parse_71 : decode cX6_parse 71 = .ok (.aload_n 0, 1) := by decide +kernel
theorem dX6_parse_72 : decode cX6_parse 72 = .ok (.invokevirtual 34, 3) := by decide +kernel
theorem dX6_parse_75 : decode cX6_parse 75 = .ok (.putfield 38, 3) := by decide +kernel
theorem dX6_parse_78 : decode cX6_parse 78 = .ok (.aload_n 0, 1) := by decide +kernel
theorem dX6_parse_79 : decode cX6_parse 79 = .ok (.getfield 38, 3) := by decide +kernel
theorem dX6_parse_82 : decode cX6_parse 82 = .ok (.ifCond .ge 5, 3) := by decide +kernel
theorem dX6_parse_85 : decode cX6_parse 85 = .ok (.iconst 0, 1) := by decide +kernel
theorem dX6_parse_86 : decode cX6_parse 86 = .ok (.ireturn, 1) := by decide +kernel
theorem dX6_parse_87 : decode cX6_parse 87 = .ok (.aload_n 0, 1) := by decide +kernel
theorem dX6_parse_88 : decode cX6_parse 88 = .ok (.getfield 23, 3) := by decide +kernel
theorem dX6_parse_91 : decode cX6_parse 91 = .ok (.bipush 114, 2) := by decide +kernel
theorem dX6_parse_93 : decode cX6_parse 93 = .ok (.if_icmp .ne 12, 3) := by decide +kernel
theorem dX6_parse_96 : decode cX6_parse 96 = .ok (.aload_n 0, 1) := by decide +kernel
theorem dX6_parse_97 : decode cX6_parse 97 = .ok (.bipush 59, 2) := by decide +kernel
theorem dX6_parse_99 : decode cX6_parse 99 = .ok (.invokevirtual 30, 3) := by decide +kernel
theorem dX6_parse_102 : decode cX6_parse 102 = .ok (.goto 24, 3) := by decide +kernel
theorem dX6_parse_105 : decode cX6_parse 105 = .ok (.aload_n 0, 1) := by decide +kernel
theorem dX6_parse_106 : decode cX6_parse 106 = .ok (.invokevirtual 41, 3) := by decide +kernel
theorem dX6_parse_109 : decode cX6_parse 109 = .ok (.ifCond .eq 16, 3) := by decide +kernel
theorem dX6_parse_112 : decode cX6_parse 112 = .ok (.aload_n 0, 1) := by decide +kernel
theorem dX6_parse_113 : decode cX6_parse 113 = .ok (.bipush 59, 2) := by decide +kernel
theorem dX6_parse_115 : decode cX6_parse 115 = .ok (.invokevirtual 30, 3) := by decide +kernel
theorem dX6_parse_118 : decode cX6_parse 118 = .ok (.ifCond .eq 7, 3) := by decide +kernel
theorem dX6_parse_121 : decode cX6_parse 121 = .ok (.iconst 1, 1) := by decide +kernel
theorem dX6_parse_122 : decode cX6_parse 122 = .ok (.goto 4, 3) := by decide +kernel
theorem dX6_parse_125 : decode cX6_parse 125 = .ok (.iconst 0, 1) := by decide +kernel
theorem dX6_parse_126 : decode cX6_parse 126 = .ok (.ireturn, 1) := by decide +kernel
theorem dX6_parsesNumber_0 : decode cX6_parsesNumber 0 = .ok (.aload_n 0, 1) := by decide +kernel
theorem dX6_parsesNumber_1 : decode cX6_parsesNumber 1 = .ok (.bipush 44, 2) := by decide +kernel
theorem dX6_parsesNumber_3 : decode cX6_parsesNumber 3 = .ok (.invokevirtual 30, 3) := by decide +kernel
theorem dX6_parsesNumber_6 : decode cX6_parsesNumber 6 = .ok (.ifCond .ne 5, 3) := by decide +kernel
theorem dX6_parsesNumber_9 : decode cX6_parsesNumber 9 = .ok (.iconst 0, 1) := by decide +kernel
theorem dX6_parsesNumber_10 : decode cX6_parsesNumber 10 = .ok (.ireturn, 1) := by decide +kernel
theorem dX6_parsesNumber_11 : decode cX6_parsesNumber 11 = .ok (.aload_n 0, 1) := by decide +kernel
theorem dX6_parsesNumber_12 : decode cX6_parsesNumber 12 = .ok (.getfield 23, 3) := by decide +kernel
theorem dX6_parsesNumber_15 : decode cX6_parsesNumber 15 = .ok (.bipush 116, 2) := by decide +kernel
theorem dX6_parsesNumber_17 : decode cX6_parsesNumber 17 = .ok (.if_icmp .ne 16, 3) := by decide +kernel
theorem dX6_parsesNumber_20 : decode cX6_parsesNumber 20 = .ok (.aload_n 0, 1) := by decide +kernel
theorem dX6_parsesNumber_21 : decode cX6_parsesNumber 21 = .ok (.bipush 45, 2) := by decide +kernel
theorem dX6_parsesNumber_23 : decode cX6_parsesNumber 23 = .ok (.invokevirtual 30, 3) := by decide +kernel
theorem dX6_parsesNumber_26 : decode cX6_parsesNumber 26 = .ok (.ifCond .eq 7, 3) := by decide +kernel
theorem dX6_parsesNumber_29 : decode cX6_parsesNumber 29 = .ok (.iconst 1, 1) := by decide +kernel
theorem dX6_parsesNumber_30 : decode cX6_parsesNumber 30 = .ok (.goto 4, 3) := by decide +kernel
theorem dX6_parsesNumber_33 : decode cX6_parsesNumber 33 = .ok (.iconst 0, 1) := by decide +kernel
theorem dX6_parsesNumber_34 : decode cX6_parsesNumber 34 = .ok (.istore_n 1, 1) := by decide +kernel
theorem dX6_parsesNumber_35 : decode cX6_parsesNumber 35 = .ok (.aload_n 0, 1) := by decide +kernel
theorem dX6_parsesNumber_36 : decode cX6_parsesNumber 36 = .ok (.invokevirtual 34, 3) := by decide +kernel
theorem dX6_parsesNumber_39 : decode cX6_parsesNumber 39 = .ok (.istore_n 2, 1) := by decide +kernel
theorem dX6_parsesNumber_40 : decode cX6_parsesNumber 40 = .ok (.aload_n 0, 1) := by decide +kernel
theorem dX6_parsesNumber_41 : decode cX6_parsesNumber 41 = .ok (.iload_n 1, 1) := by decide +kernel
theorem dX6_parsesNumber_42 : decode cX6_parsesNumber 42 = .ok (.ifCond .eq 8, 3) := by decide +kernel
theorem dX6_parsesNumber_45 : decode cX6_parsesNumber 45 = .ok (.iload_n 2, 1) := by decide +kernel
theorem dX6_parsesNumber_46 : decode cX6_parsesNumber 46 = .ok (.ineg, 1) := by decide +kernel
theorem dX6_parsesNumber_47 : decode cX6_parsesNumber 47 = .ok (.goto 4, 3) := by decide +kernel
theorem dX6_parsesNumber_50 : decode cX6_parsesNumber 50 = .ok (.iload_n 2, 1) := by decide +kernel
theorem dX6_parsesNumber_51 : decode cX6_parsesNumber 51 = .ok (.putfield 45, 3) := by decide +kernel
theorem dX6_parsesNumber_54 : decode cX6_parsesNumber 54 = .ok (.iload_n 2, 1) := by decide +kernel
theorem dX6_parsesNumber_55 : decode cX6_parsesNumber 55 = .ok (.ifCond .lt 7, 3) := by decide +kernel
theorem dX6_parsesNumber_58 : decode cX6_parsesNumber 58 = .ok (.iconst 1, 1) := by decide +kernel
theorem dX6_parsesNumber_59 : decode cX6_parsesNumber 59 = .ok (.goto 4, 3) := by decide +kernel
theorem dX6_parsesNumber_62 : decode cX6_parsesNumber 62 = .ok (.iconst 0, 1) := by decide +kernel
theorem dX6_parsesNumber_63 : decode cX6_parsesNumber 63 = .ok (.ireturn, 1) := by decide +kernel
theorem dX6_parsedDigits_0 : decode cX6_parsedDigits 0 = .ok (.iconst 0, 1) := by decide +kernel
theorem dX6_parsedDigits_1 : decode cX6_parsedDigits 1 = .ok (.istore_n 1, 1) := by decide +kernel
theorem dX6_parsedDigits_2 : decode cX6_parsedDigits 2 = .ok (.iconst 0, 1) := by decide +kernel
theorem dX6_parsedDigits_3 : decode cX6_parsedDigits 3 = .ok (.istore_n 2, 1) := by decide +kernel
theorem dX6_parsedDigits_4 : decode cX6_parsedDigits 4 = .ok (.iload_n 2, 1) := by decide +kernel
theorem dX6_parsedDigits_5 : decode cX6_parsedDigits 5 = .ok (.bipush 6, 2) := by decide +kernel
theorem dX6_parsedDigits_7 : decode cX6_parsedDigits 7 = .ok (.if_icmp .ge 62, 3) := by decide +kernel
theorem dX6_parsedDigits_10 : decode cX6_parsedDigits 10 = .ok (.aload_n 0, 1) := by decide +kernel
theorem dX6_parsedDigits_11 : decode cX6_parsedDigits 11 = .ok (.aload_n 0, 1) := by decide +kernel
theorem dX6_parsedDigits_12 : decode cX6_parsedDigits 12 = .ok (.getfield 27, 3) := by decide +kernel
theorem dX6_parsedDigits_15 : decode cX6_parsedDigits 15 = .ok (.invokevirtual 19, 3) := by decide +kernel
theorem dX6_parsedDigits_18 : decode cX6_parsedDigits 18 = .ok (.bipush 48, 2) := by decide +kernel
theorem dX6_parsedDigits_20 : decode cX6_parsedDigits 20 = .ok (.if_icmp .lt 49, 3) := by decide +kernel
theorem dX6_parsedDigits_23 : decode cX6_parsedDigits 23 = .ok (.aload_n 0, 1) := by decide +kernel
theorem dX6_parsedDigits_24 : decode cX6_parsedDigits 24 = .ok (.aload_n 0, 1) := by decide +kernel
theorem dX6_parsedDigits_25 : decode cX6_parsedDigits 25 = .ok (.getfield 27, 3) := by decide +kernel
theorem dX6_parsedDigits_28 : decode cX6_parsedDigits 28 = .ok (.invokevirtual 19, 3) := by decide +kernel
theorem dX6_parsedDigits_31 : decode cX6_parsedDigits 31 = .ok (.bipush 57, 2) := by decide +kernel
theorem dX6_parsedDigits_33 : decode cX6_parsedDigits 33 = .ok (.if_icmp .gt 36, 3) := by decide +kernel
theorem dX6_parsedDigits_36 : decode cX6_parsedDigits 36 = .ok (.iload_n 1, 1) := by decide +kernel
theorem dX6_parsedDigits_37 : decode cX6_parsedDigits 37 = .ok (.bipush 10, 2) := by decide +kernel
theorem dX6_parsedDigits_39 : decode cX6_parsedDigits 39 = .ok (.imul, 1) := by decide +kernel
theorem dX6_parsedDigits_40 : decode cX6_parsedDigits 40 = .ok (.aload_n 0, 1) := by decide +kernel
theorem dX6_parsedDigits_41 : decode cX6_parsedDigits 41 = .ok (.aload_n 0, 1) := by decide +kernel
theorem dX6_parsedDigits_42 : decode cX6_parsedDigits 42 = .ok (.getfield 27, 3) := by decide +kernel
theorem dX6_parsedDigits_45 : decode cX6_parsedDigits 45 = .ok (.invokevirtual 19, 3) := by decide +kernel
theorem dX6_parsedDigits_48 : decode cX6_parsedDigits 48 = .ok (.bipush 48, 2) := by decide +kernel
theorem dX6_parsedDigits_50 : decode cX6_parsedDigits 50 = .ok (.isub, 1) := by decide +kernel
theorem dX6_parsedDigits_51 : decode cX6_parsedDigits 51 = .ok (.iadd, 1) := by decide +kernel
theorem dX6_parsedDigits_52 : decode cX6_parsedDigits 52 = .ok (.istore_n 1, 1) := by decide +kernel
theorem dX6_parsedDigits_53 : decode cX6_parsedDigits 53 = .ok (.aload_n 0, 1) := by decide +kernel
theorem dX6_parsedDigits_54 : decode cX6_parsedDigits 54 = .ok (.dup, 1) := by decide +kernel
theorem dX6_parsedDigits_55 : decode cX6_parsedDigits 55 = .ok (.getfield 27, 3) := by decide +kernel
theorem dX6_parsedDigits_58 : decode cX6_parsedDigits 58 = .ok (.iconst 1, 1) := by decide +kernel
theorem dX6_parsedDigits_59 : decode cX6_parsedDigits 59 = .ok (.iadd, 1) := by decide +kernel
theorem dX6_parsedDigits_60 : decode cX6_parsedDigits 60 = .ok (.putfield 27, 3) := by decide +kernel
theorem dX6_parsedDigits_63 : decode cX6_parsedDigits 63 = .ok (.iinc 2 1, 3) := by decide +kernel
theorem dX6_parsedDigits_66 : decode cX6_parsedDigits 66 = .ok (.goto (-62), 3) := by decide +kernel
theorem dX6_parsedDigits_69 : decode cX6_parsedDigits 69 = .ok (.iload_n 2, 1) := by decide +kernel
theorem dX6_parsedDigits_70 : decode cX6_parsedDigits 70 = .ok (.ifCond .ne 7, 3) := by decide +kernel
theorem dX6_parsedDigits_73 : decode cX6_parsedDigits 73 = .ok (.iconst (-1), 1) := by decide +kernel
theorem dX6_parsedDigits_74 : decode cX6_parsedDigits 74 = .ok (.goto 4, 3) := by decide +kernel
theorem dX6_parsedDigits_77 : decode cX6_parsedDigits 77 = .ok (.iload_n 1, 1) := by decide +kernel
theorem dX6_parsedDigits_78 : decode cX6_parsedDigits 78 = .ok (.ireturn, 1) := by decide +kernel
theorem dX6_takes_0 : decode cX6_takes 0 = .ok (.aload_n 0, 1) := by decide +kernel
theorem dX6_takes_1 : decode cX6_takes 1 = .ok (.aload_n 0, 1) := by decide +kernel
theorem dX6_takes_2 : decode cX6_takes 2 = .ok (.getfield 27, 3) := by decide +kernel
theorem dX6_takes_5 : decode cX6_takes 5 = .ok (.invokevirtual 19, 3) := by decide +kernel
theorem dX6_takes_8 : decode cX6_takes 8 = .ok (.iload_n 1, 1) := by decide +kernel
theorem dX6_takes_9 : decode cX6_takes 9 = .ok (.if_icmp .eq 5, 3) := by decide +kernel
theorem dX6_takes_12 : decode cX6_takes 12 = .ok (.iconst 0, 1) := by decide +kernel
theorem dX6_takes_13 : decode cX6_takes 13 = .ok (.ireturn, 1) := by decide +kernel
theorem dX6_takes_14 : decode cX6_takes 14 = .ok (.aload_n 0, 1) := by decide +kernel
theorem dX6_takes_15 : decode cX6_takes 15 = .ok (.dup, 1) := by decide +kernel
theorem dX6_takes_16 : decode cX6_takes 16 = .ok (.getfield 27, 3) := by decide +kernel
theorem dX6_takes_19 : decode cX6_takes 19 = .ok (.iconst 1, 1) := by decide +kernel
theorem dX6_takes_20 : decode cX6_takes 20 = .ok (.iadd, 1) := by decide +kernel
theorem dX6_takes_21 : decode cX6_takes 21 = .ok (.putfield 27, 3) := by decide +kernel
theorem dX6_takes_24 : decode cX6_takes 24 = .ok (.iconst 1, 1) := by decide +kernel
theorem dX6_takes_25 : decode cX6_takes 25 = .ok (.ireturn, 1) := by decide +kernel
theorem dX6_characterAt_0 : decode cX6_characterAt 0 = .ok (.iload_n 1, 1) := by decide +kernel
theorem dX6_characterAt_1 : decode cX6_characterAt 1 = .ok (.ifCond .lt 24, 3) := by decide +kernel
theorem dX6_characterAt_4 : decode cX6_characterAt 4 = .ok (.iload_n 1, 1) := by decide +kernel
theorem dX6_characterAt_5 : decode cX6_characterAt 5 = .ok (.aload_n 0, 1) := by decide +kernel
theorem dX6_characterAt_6 : decode cX6_characterAt 6 = .ok (.getfield 15, 3) := by decide +kernel
theorem dX6_characterAt_9 : decode cX6_characterAt 9 = .ok (.if_icmp .ge 16, 3) := by decide +kernel
theorem dX6_characterAt_12 : decode cX6_characterAt 12 = .ok (.iload_n 1, 1) := by decide +kernel
theorem dX6_characterAt_13 : decode cX6_characterAt 13 = .ok (.aload_n 0, 1) := by decide +kernel
theorem dX6_characterAt_14 : decode cX6_characterAt 14 = .ok (.getfield 9, 3) := by decide +kernel
theorem dX6_characterAt_17 : decode cX6_characterAt 17 = .ok (.arraylength, 1) := by decide +kernel
theorem dX6_characterAt_18 : decode cX6_characterAt 18 = .ok (.if_icmp .ge 7, 3) := by decide +kernel
theorem dX6_characterAt_21 : decode cX6_characterAt 21 = .ok (.iconst 1, 1) := by decide +kernel
theorem dX6_characterAt_22 : decode cX6_characterAt 22 = .ok (.goto 4, 3) := by decide +kernel
theorem dX6_characterAt_25 : decode cX6_characterAt 25 = .ok (.iconst 0, 1) := by decide +kernel
theorem dX6_characterAt_26 : decode cX6_characterAt 26 = .ok (.istore_n 2, 1) := by decide +kernel
theorem dX6_characterAt_27 : decode cX6_characterAt 27 = .ok (.iload_n 2, 1) := by decide +kernel
theorem dX6_characterAt_28 : decode cX6_characterAt 28 = .ok (.ifCond .eq 12, 3) := by decide +kernel
theorem dX6_characterAt_31 : decode cX6_characterAt 31 = .ok (.aload_n 0, 1) := by decide +kernel
theorem dX6_characterAt_32 : decode cX6_characterAt 32 = .ok (.getfield 9, 3) := by decide +kernel
theorem dX6_characterAt_35 : decode cX6_characterAt 35 = .ok (.iload_n 1, 1) := by decide +kernel
theorem dX6_characterAt_36 : decode cX6_characterAt 36 = .ok (.caload, 1) := by decide +kernel
theorem dX6_characterAt_37 : decode cX6_characterAt 37 = .ok (.goto 4, 3) := by decide +kernel
theorem dX6_characterAt_40 : decode cX6_characterAt 40 = .ok (.iconst 0, 1) := by decide +kernel
theorem dX6_characterAt_41 : decode cX6_characterAt 41 = .ok (.ireturn, 1) := by decide +kernel
theorem dX7_init_0 : decode cX7_init 0 = .ok (.aload_n 0, 1) := by decide +kernel
theorem dX7_init_1 : decode cX7_init 1 = .ok (.invokespecial 1, 3) := by decide +kernel
theorem dX7_init_4 : decode cX7_init 4 = .ok (.aload_n 0, 1) := by decide +kernel
theorem dX7_init_5 : decode cX7_init 5 = .ok (.new 7, 3) := by decide +kernel
theorem dX7_init_8 : decode cX7_init 8 = .ok (.dup, 1) := by decide +kernel
theorem dX7_init_9 : decode cX7_init 9 = .ok (.invokespecial 9, 3) := by decide +kernel
theorem dX7_init_12 : decode cX7_init 12 = .ok (.putfield 10, 3) := by decide +kernel
theorem dX7_init_15 : decode cX7_init 15 = .ok (.aload_n 0, 1) := by decide +kernel
theorem dX7_init_16 : decode cX7_init 16 = .ok (.new 7, 3) := by decide +kernel
theorem dX7_init_19 : decode cX7_init 19 = .ok (.dup, 1) := by decide +kernel
theorem dX7_init_20 : decode cX7_init 20 = .ok (.invokespecial 9, 3) := by decide +kernel
theorem dX7_init_23 : decode cX7_init 23 = .ok (.putfield 16, 3) := by decide +kernel
theorem dX7_init_26 : decode cX7_init 26 = .ok (.aload_n 0, 1) := by decide +kernel
theorem dX7_init_27 : decode cX7_init 27 = .ok (.new 19, 3) := by decide +kernel
theorem dX7_init_30 : decode cX7_init 30 = .ok (.dup, 1) := by decide +kernel
theorem dX7_init_31 : decode cX7_init 31 = .ok (.invokespecial 21, 3) := by decide +kernel
theorem dX7_init_34 : decode cX7_init 34 = .ok (.putfield 22, 3) := by decide +kernel
theorem dX7_init_37 : decode cX7_init 37 = .ok (.aload_n 0, 1) := by decide +kernel
theorem dX7_init_38 : decode cX7_init 38 = .ok (.new 26, 3) := by decide +kernel
theorem dX7_init_41 : decode cX7_init 41 = .ok (.dup, 1) := by decide +kernel
theorem dX7_init_42 : decode cX7_init 42 = .ok (.invokespecial 28, 3) := by decide +kernel
theorem dX7_init_45 : decode cX7_init 45 = .ok (.putfield 29, 3) := by decide +kernel
theorem dX7_init_48 : decode cX7_init 48 = .ok (.aload_n 0, 1) := by decide +kernel
theorem dX7_init_49 : decode cX7_init 49 = .ok (.new 33, 3) := by decide +kernel
theorem dX7_init_52 : decode cX7_init 52 = .ok (.dup, 1) := by decide +kernel
theorem dX7_init_53 : decode cX7_init 53 = .ok (.invokespecial 35, 3) := by decide +kernel
theorem dX7_init_56 : decode cX7_init 56 = .ok (.putfield 36, 3) := by decide +kernel
theorem dX7_init_59 : decode cX7_init 59 = .ok (.aload_n 0, 1) := by decide +kernel
theorem dX7_init_60 : decode cX7_init 60 = .ok (.new 40, 3) := by decide +kernel
theorem dX7_init_63 : decode cX7_init 63 = .ok (.dup, 1) := by decide +kernel
theorem dX7_init_64 : decode cX7_init 64 = .ok (.invokespecial 42, 3) := by decide +kernel
theorem dX7_init_67 : decode cX7_init 67 = .ok (.putfield 43, 3) := by decide +kernel
theorem dX7_init_70 : decode cX7_init 70 = .ok (.aload_n 0, 1) := by decide +kernel
theorem dX7_init_71 : decode cX7_init 71 = .ok (.bipush 9, 2) := by decide +kernel
theorem dX7_init_73 : decode cX7_init 73 = .ok (.newarray .int, 2) := by decide +kernel
theorem dX7_init_75 : decode cX7_init 75 = .ok (.putfield 47, 3) := by decide +kernel
theorem dX7_init_78 : decode cX7_init 78 = .ok (.return_, 1) := by decide +kernel
theorem dX7_table_0 : decode cX7_table 0 = .ok (.aload_n 0, 1) := by decide +kernel
theorem dX7_table_1 : decode cX7_table 1 = .ok (.getfield 10, 3) := by decide +kernel
theorem dX7_table_4 : decode cX7_table 4 = .ok (.getfield 51, 3) := by decide +kernel
theorem dX7_table_7 : decode cX7_table 7 = .ok (.iconst 3, 1) := by decide +kernel
theorem dX7_table_8 : decode cX7_table 8 = .ok (.if_icmp .lt 6, 3) := by decide +kernel
theorem dX7_table_11 : decode cX7_table 11 = .ok (.ldc 55, 2) := by decide +kernel
theorem dX7_table_13 : decode cX7_table 13 = .ok (.ireturn, 1) := by decide +kernel
theorem dX7_table_14 : decode cX7_table 14 = .ok (.aload_n 0, 1) := by decide +kernel
theorem dX7_table_15 : decode cX7_table 15 = .ok (.getfield 22, 3) := by decide +kernel
theorem dX7_table_18 : decode cX7_table 18 = .ok (.aload_n 0, 1) := by decide +kernel
theorem dX7_table_19 : decode cX7_table 19 = .ok (.getfield 10, 3) := by decide +kernel
theorem dX7_table_22 : decode cX7_table 22 = .ok (.invokevirtual 56, 3) := by decide +kernel
theorem dX7_table_25 : decode cX7_table 25 = .ok (.aload_n 0, 1) := by decide +kernel
theorem dX7_table_26 : decode cX7_table 26 = .ok (.getfield 10, 3) := by decide +kernel
theorem dX7_table_29 : decode cX7_table 29 = .ok (.dup, 1) := by decide +kernel
theorem dX7_table_30 : decode cX7_table 30 = .ok (.getfield 51, 3) := by decide +kernel
theorem dX7_table_33 : decode cX7_table 33 = .ok (.iconst 1, 1) := by decide +kernel
theorem dX7_table_34 : decode cX7_table 34 = .ok (.iadd, 1) := by decide +kernel
theorem dX7_table_35 : decode cX7_table 35 = .ok (.putfield 51, 3) := by decide +kernel
theorem dX7_table_38 : decode cX7_table 38 = .ok (.aload_n 0, 1) := by decide +kernel
theorem dX7_table_39 : decode cX7_table 39 = .ok (.getfield 10, 3) := by decide +kernel
theorem dX7_table_42 : decode cX7_table 42 = .ok (.getfield 51, 3) := by decide +kernel
theorem dX7_table_45 : decode cX7_table 45 = .ok (.iconst 1, 1) := by decide +kernel
theorem dX7_table_46 : decode cX7_table 46 = .ok (.isub, 1) := by decide +kernel
theorem dX7_table_47 : decode cX7_table 47 = .ok (.ireturn, 1) := by decide +kernel
theorem dX7_node_0 : decode cX7_node 0 = .ok (.aload_n 0, 1) := by decide +kernel
theorem dX7_node_1 : decode cX7_node 1 = .ok (.getfield 10, 3) := by decide +kernel
theorem dX7_node_4 : decode cX7_node 4 = .ok (.iload_n 1, 1) := by decide +kernel
theorem dX7_node_5 : decode cX7_node 5 = .ok (.invokevirtual 60, 3) := by decide +kernel
theorem dX7_node_8 : decode cX7_node 8 = .ok (.astore 4, 2) := by decide +kernel
theorem dX7_node_10 : decode cX7_node 10 = .ok (.aload 4, 2) := by decide +kernel
theorem dX7_node_12 : decode cX7_node 12 = .ok (.ifnull 22, 3) := by decide +kernel
theorem dX7_node_15 : decode cX7_node 15 = .ok (.iload_n 2, 1) := by decide +kernel
theorem dX7_node_16 : decode cX7_node 16 = .ok (.invokestatic 64, 3) := by decide +kernel
theorem dX7_node_19 : decode cX7_node 19 = .ok (.ifCond .eq 15, 3) := by decide +kernel
theorem dX7_node_22 : decode cX7_node 22 = .ok (.iload_n 3, 1) := by decide +kernel
theorem dX7_node_23 : decode cX7_node 23 = .ok (.i2l, 1) := by decide +kernel
theorem dX7_node_24 : decode cX7_node 24 = .ok (.lconst 1, 1) := by decide +kernel
theorem dX7_node_25 : decode cX7_node 25 = .ok (.ldc2_w 68, 3) := by decide +kernel
theorem dX7_node_28 : decode cX7_node 28 = .ok (.invokestatic 70, 3) := by decide +kernel
theorem dX7_node_31 : decode cX7_node 31 = .ok (.ifCond .ne 6, 3) := by decide +kernel
theorem dX7_node_34 : decode cX7_node 34 = .ok (.ldc 74, 2) := by decide +kernel
theorem dX7_node_36 : decode cX7_node 36 = .ok (.ireturn, 1) := by decide +kernel
theorem dX7_node_37 : decode cX7_node 37 = .ok (.aload_n 0, 1) := by decide +kernel
theorem dX7_node_38 : decode cX7_node 38 = .ok (.getfield 10, 3) := by decide +kernel
theorem dX7_node_41 : decode cX7_node 41 = .ok (.iload_n 1, 1) := by decide +kernel
theorem dX7_node_42 : decode cX7_node 42 = .ok (.invokevirtual 75, 3) := by decide +kernel
theorem dX7_node_45 : decode cX7_node 45 = .ok (.ifCond .ne 13, 3) := by decide +kernel
theorem dX7_node_48 : decode cX7_node 48 = .ok (.aload 4, 2) := by decide +kernel
theorem dX7_node_50 : decode cX7_node 50 = .ok (.iload_n 2, 1) := by decide +kernel
theorem dX7_node_51 : decode cX7_node 51 = .ok (.iload_n 3, 1) := by decide +kernel
theorem dX7_node_52 : decode cX7_node 52 = .ok (.invokevirtual 78, 3) := by decide +kernel
theorem dX7_node_55 : decode cX7_node 55 = .ok (.ifCond .ne 6, 3) := by decide +kernel
theorem dX7_node_58 : decode cX7_node 58 = .ok (.ldc 84, 2) := by decide +kernel
theorem dX7_node_60 : decode cX7_node 60 = .ok (.ireturn, 1) := by decide +kernel
theorem dX7_node_61 : decode cX7_node 61 = .ok (.aload 4, 2) := by decide +kernel
theorem dX7_node_63 : decode cX7_node 63 = .ok (.getfield 85, 3) := by decide +kernel
theorem dX7_node_66 : decode cX7_node 66 = .ok (.bipush 12, 2) := by decide +kernel
theorem dX7_node_68 : decode cX7_node 68 = .ok (.if_icmp .lt 6, 3) := by decide +kernel
theorem dX7_node_71 : decode cX7_node 71 = .ok (.ldc 55, 2) := by decide +kernel
theorem dX7_node_73 : decode cX7_node 73 = .ok (.ireturn, 1) := by decide +kernel
theorem dX7_node_74 : decode cX7_node 74 = .ok (.aload_n 0, 1) := by decide +kernel
theorem dX7_node_75 : decode cX7_node 75 = .ok (.getfield 22, 3) := by decide +kernel
theorem dX7_node_78 : decode cX7_node 78 = .ok (.aload_n 0, 1) := by decide +kernel
theorem dX7_node_79 : decode cX7_node 79 = .ok (.getfield 10, 3) := by decide +kernel
theorem dX7_node_82 : decode cX7_node 82 = .ok (.invokevirtual 56, 3) := by decide +kernel
theorem dX7_node_85 : decode cX7_node 85 = .ok (.aload 4, 2) := by decide +kernel
theorem dX7_node_87 : decode cX7_node 87 = .ok (.iload_n 2, 1) := by decide +kernel
theorem dX7_node_88 : decode cX7_node 88 = .ok (.iload_n 3, 1) := by decide +kernel
theorem dX7_node_89 : decode cX7_node 89 = .ok (.invokevirtual 88, 3) := by decide +kernel
theorem dX7_node_92 : decode cX7_node 92 = .ok (.aload 4, 2) := by decide +kernel
theorem dX7_node_94 : decode cX7_node 94 = .ok (.getfield 85, 3) := by decide +kernel
theorem dX7_node_97 : decode cX7_node 97 = .ok (.ireturn, 1) := by decide +kernel
theorem dX7_nodeAt_0 : decode cX7_nodeAt 0 = .ok (.aload_n 0, 1) := by decide +kernel
theorem dX7_nodeAt_1 : decode cX7_nodeAt 1 = .ok (.getfield 10, 3) := by decide +kernel
theorem dX7_nodeAt_4 : decode cX7_nodeAt 4 = .ok (.iload_n 1, 1) := by decide +kernel
theorem dX7_nodeAt_5 : decode cX7_nodeAt 5 = .ok (.invokevirtual 60, 3) := by decide +kernel
theorem dX7_nodeAt_8 : decode cX7_nodeAt 8 = .ok (.astore 4, 2) := by decide +kernel
theorem dX7_nodeAt_10 : decode cX7_nodeAt 10 = .ok (.aload 4, 2) := by decide +kernel
theorem dX7_nodeAt_12 : decode cX7_nodeAt 12 = .ok (.ifnull 17, 3) := by decide +kernel
theorem dX7_nodeAt_15 : decode cX7_nodeAt 15 = .ok (.iload_n 2, 1) := by decide +kernel
theorem dX7_nodeAt_16 : decode cX7_nodeAt 16 = .ok (.ifCond .lt 13, 3) := by decide +kernel
theorem dX7_nodeAt_19 : decode cX7_nodeAt 19 = .ok (.iload_n 3, 1) := by decide +kernel
theorem dX7_nodeAt_20 : decode cX7_nodeAt 20 = .ok (.i2l, 1) := by decide +kernel
theorem dX7_nodeAt_21 : decode cX7_nodeAt 21 = .ok (.lconst 0, 1) := by decide +kernel
theorem dX7_nodeAt_22 : decode cX7_nodeAt 22 = .ok (.lconst 1, 1) := by decide +kernel
theorem dX7_nodeAt_23 : decode cX7_nodeAt 23 = .ok (.invokestatic 70, 3) := by decide +kernel
theorem dX7_nodeAt_26 : decode cX7_nodeAt 26 = .ok (.ifCond .ne 6, 3) := by decide +kernel
theorem dX7_nodeAt_29 : decode cX7_nodeAt 29 = .ok (.ldc 74, 2) := by decide +kernel
theorem dX7_nodeAt_31 : decode cX7_nodeAt 31 = .ok (.ireturn, 1) := by decide +kernel
theorem dX7_nodeAt_32 : decode cX7_nodeAt 32 = .ok (.iload_n 2, 1) := by decide +kernel
theorem dX7_nodeAt_33 : decode cX7_nodeAt 33 = .ok (.aload 4, 2) := by decide +kernel
theorem dX7_nodeAt_35 : decode cX7_nodeAt 35 = .ok (.getfield 85, 3) := by decide +kernel
theorem dX7_nodeAt_38 : decode cX7_nodeAt 38 = .ok (.if_icmp .lt 6, 3) := by decide +kernel
theorem dX7_nodeAt_41 : decode cX7_nodeAt 41 = .ok (.ldc 92, 2) := by decide +kernel
theorem dX7_nodeAt_43 : decode cX7_nodeAt 43 = .ok (.ireturn, 1) := by decide +kernel
theorem dX7_nodeAt_44 : decode cX7_nodeAt 44 = .ok (.iload_n 3, 1) := by decide +kernel
theorem dX7_nodeAt_45 : decode cX7_nodeAt 45 = .ok (.ifCond .ne 12, 3) := by decide +kernel
theorem dX7_nodeAt_48 : decode cX7_nodeAt 48 = .ok (.aload 4, 2) := by decide +kernel
theorem dX7_nodeAt_50 : decode cX7_nodeAt 50 = .ok (.iload_n 2, 1) := by decide +kernel
theorem dX7_nodeAt_51 : decode cX7_nodeAt 51 = .ok (.invokevirtual 93, 3) := by decide +kernel
theorem dX7_nodeAt_54 : decode cX7_nodeAt 54 = .ok (.goto 9, 3) := by decide +kernel
theorem dX7_nodeAt_57 : decode cX7_nodeAt 57 = .ok (.aload 4, 2) := by decide +kernel
theorem dX7_nodeAt_59 : decode cX7_nodeAt 59 = .ok (.iload_n 2, 1) := by decide +kernel
theorem dX7_nodeAt_60 : decode cX7_nodeAt 60 = .ok (.invokevirtual 97, 3) := by decide +kernel
theorem dX7_nodeAt_63 : decode cX7_nodeAt 63 = .ok (.ireturn, 1) := by decide +kernel
theorem dX7_ratio_0 : decode cX7_ratio 0 = .ok (.aload_n 0, 1) := by decide +kernel
theorem dX7_ratio_1 : decode cX7_ratio 1 = .ok (.getfield 10, 3) := by decide +kernel
theorem dX7_ratio_4 : decode cX7_ratio 4 = .ok (.iload_n 1, 1) := by decide +kernel
theorem dX7_ratio_5 : decode cX7_ratio 5 = .ok (.invokevirtual 60, 3) := by decide +kernel
theorem dX7_ratio_8 : decode cX7_ratio 8 = .ok (.astore_n 3, 1) := by decide +kernel
theorem dX7_ratio_9 : decode cX7_ratio 9 = .ok (.aload_n 3, 1) := by decide +kernel
theorem dX7_ratio_10 : decode cX7_ratio 10 = .ok (.ifnull 10, 3) := by decide +kernel
theorem dX7_ratio_13 : decode cX7_ratio 13 = .ok (.iload_n 2, 1) := by decide +kernel
theorem dX7_ratio_14 : decode cX7_ratio 14 = .ok (.invokestatic 64, 3) := by decide +kernel
theorem dX7_ratio_17 : decode cX7_ratio 17 = .ok (.ifCond .ne 6, 3) := by decide +kernel
theorem dX7_ratio_20 : decode cX7_ratio 20 = .ok (.ldc 74, 2) := by decide +kernel
theorem dX7_ratio_22 : decode cX7_ratio 22 = .ok (.ireturn, 1) := by decide +kernel
theorem dX7_ratio_23 : decode cX7_ratio 23 = .ok (.aload_n 3, 1) := by decide +kernel
theorem dX7_ratio_24 : decode cX7_ratio 24 = .ok (.iload_n 2, 1) := by decide +kernel
theorem dX7_ratio_25 : decode cX7_ratio 25 = .ok (.invokevirtual 100, 3) := by decide +kernel
theorem dX7_ratio_28 : decode cX7_ratio 28 = .ok (.ifCond .eq 11, 3) := by decide +kernel
theorem dX7_ratio_31 : decode cX7_ratio 31 = .ok (.aload_n 3, 1) := by decide +kernel
theorem dX7_ratio_32 : decode cX7_ratio 32 = .ok (.iload_n 2, 1) := by decide +kernel
theorem dX7_ratio_33 : decode cX7_ratio 33 = .ok (.invokevirtual 103, 3) := by decide +kernel
theorem dX7_ratio_36 : decode cX7_ratio 36 = .ok (.goto 5, 3) := by decide +kernel
theorem dX7_ratio_39 : decode cX7_ratio 39 = .ok (.ldc 92, 2) := by decide +kernel
theorem dX7_ratio_41 : decode cX7_ratio 41 = .ok (.ireturn, 1) := by decide +kernel
theorem dX7_inverse_0 : decode cX7_inverse 0 = .ok (.aload_n 0, 1) := by decide +kernel
theorem dX7_inverse_1 : decode cX7_inverse 1 = .ok (.getfield 10, 3) := by decide +kernel
theorem dX7_inverse_4 : decode cX7_inverse 4 = .ok (.iload_n 1, 1) := by decide +kernel
theorem dX7_inverse_5 : decode cX7_inverse 5 = .ok (.invokevirtual 60, 3) := by decide +kernel
theorem dX7_inverse_8 : decode cX7_inverse 8 = .ok (.astore_n 3, 1) := by decide +kernel
theorem dX7_inverse_9 : decode cX7_inverse 9 = .ok (.aload_n 3, 1) := by decide +kernel
theorem dX7_inverse_10 : decode cX7_inverse 10 = .ok (.ifnull 15, 3) := by decide +kernel
theorem dX7_inverse_13 : decode cX7_inverse 13 = .ok (.iload_n 2, 1) := by decide +kernel
theorem dX7_inverse_14 : decode cX7_inverse 14 = .ok (.i2l, 1) := by decide +kernel
theorem dX7_inverse_15 : decode cX7_inverse 15 = .ok (.lconst 1, 1) := by decide +kernel
theorem dX7_inverse_16 : decode cX7_inverse 16 = .ok (.ldc2_w 68, 3) := by decide +kernel
theorem dX7_inverse_19 : decode cX7_inverse 19 = .ok (.invokestatic 70, 3) := by decide +kernel
theorem dX7_inverse_22 : decode cX7_inverse 22 = .ok (.ifCond .ne 6, 3) := by decide +kernel
theorem dX7_inverse_25 : decode cX7_inverse 25 = .ok (.ldc 74, 2) := by decide +kernel
theorem dX7_inverse_27 : decode cX7_inverse 27 = .ok (.ireturn, 1) := by decide +kernel
theorem dX7_inverse_28 : decode cX7_inverse 28 = .ok (.aload_n 3, 1) := by decide +kernel
theorem dX7_inverse_29 : decode cX7_inverse 29 = .ok (.iload_n 2, 1) := by decide +kernel
theorem dX7_inverse_30 : decode cX7_inverse 30 = .ok (.i2l, 1) := by decide +kernel
theorem dX7_inverse_31 : decode cX7_inverse 31 = .ok (.invokevirtual 106, 3) := by decide +kernel
theorem dX7_inverse_34 : decode cX7_inverse 34 = .ok (.ireturn, 1) := by decide +kernel
theorem dX7_sensor_0 : decode cX7_sensor 0 = .ok (.aload_n 0, 1) := by decide +kernel
theorem dX7_sensor_1 : decode cX7_sensor 1 = .ok (.getfield 10, 3) := by decide +kernel
theorem dX7_sensor_4 : decode cX7_sensor 4 = .ok (.iload_n 1, 1) := by decide +kernel
theorem dX7_sensor_5 : decode cX7_sensor 5 = .ok (.invokevirtual 60, 3) := by decide +kernel
theorem dX7_sensor_8 : decode cX7_sensor 8 = .ok (.astore 4, 2) := by decide +kernel
theorem dX7_sensor_10 : decode cX7_sensor 10 = .ok (.aload 4, 2) := by decide +kernel
theorem dX7_sensor_12 : decode cX7_sensor 12 = .ok (.ifnull 25, 3) := by decide +kernel
theorem dX7_sensor_15 : decode cX7_sensor 15 = .ok (.iload_n 2, 1) := by decide +kernel
theorem dX7_sensor_16 : decode cX7_sensor 16 = .ok (.i2l, 1) := by decide +kernel
theorem dX7_sensor_17 : decode cX7_sensor 17 = .ok (.ldc2_w 110, 3) := by decide +kernel
theorem dX7_sensor_20 : decode cX7_sensor 20 = .ok (.ldc2_w 112, 3) := by decide +kernel
theorem dX7_sensor_23 : decode cX7_sensor 23 = .ok (.invokestatic 70, 3) := by decide +kernel
theorem dX7_sensor_26 : decode cX7_sensor 26 = .ok (.ifCond .eq 11, 3) := by decide +kernel
theorem dX7_sensor_29 : decode cX7_sensor 29 = .ok (.iload_n 3, 1) := by decide +kernel
theorem dX7_sensor_30 : decode cX7_sensor 30 = .ok (.i2l, 1) := by decide +kernel
theorem dX7_sensor_31 : decode cX7_sensor 31 = .ok (.invokestatic 114, 3) := by decide +kernel
theorem dX7_sensor_34 : decode cX7_sensor 34 = .ok (.ifCond .ne 6, 3) := by decide +kernel
theorem dX7_sensor_37 : decode cX7_sensor 37 = .ok (.ldc 74, 2) := by decide +kernel
theorem dX7_sensor_39 : decode cX7_sensor 39 = .ok (.ireturn, 1) := by decide +kernel
theorem dX7_sensor_40 : decode cX7_sensor 40 = .ok (.aload 4, 2) := by decide +kernel
theorem dX7_sensor_42 : decode cX7_sensor 42 = .ok (.getfield 85, 3) := by decide +kernel
theorem dX7_sensor_45 : decode cX7_sensor 45 = .ok (.iconst 2, 1) := by decide +kernel
theorem dX7_sensor_46 : decode cX7_sensor 46 = .ok (.if_icmp .ge 6, 3) := by decide +kernel
theorem dX7_sensor_49 : decode cX7_sensor 49 = .ok (.ldc 84, 2) := by decide +kernel
theorem dX7_sensor_51 : decode cX7_sensor 51 = .ok (.ireturn, 1) := by decide +kernel
theorem dX7_sensor_52 : decode cX7_sensor 52 = .ok (.aload_n 0, 1) := by decide +kernel
theorem dX7_sensor_53 : decode cX7_sensor 53 = .ok (.getfield 10, 3) := by decide +kernel
theorem dX7_sensor_56 : decode cX7_sensor 56 = .ok (.getfield 118, 3) := by decide +kernel
theorem dX7_sensor_59 : decode cX7_sensor 59 = .ok (.bipush 6, 2) := by decide +kernel
theorem dX7_sensor_61 : decode cX7_sensor 61 = .ok (.if_icmp .lt 6, 3) := by decide +kernel
theorem dX7_sensor_64 : decode cX7_sensor 64 = .ok (.ldc 55, 2) := by decide +kernel
theorem dX7_sensor_66 : decode cX7_sensor 66 = .ok (.ireturn, 1) := by decide +kernel
theorem dX7_sensor_67 : decode cX7_sensor 67 = .ok (.aload_n 0, 1) := by decide +kernel
theorem dX7_sensor_68 : decode cX7_sensor 68 = .ok (.getfield 22, 3) := by decide +kernel
theorem dX7_sensor_71 : decode cX7_sensor 71 = .ok (.aload_n 0, 1) := by decide +kernel
theorem dX7_sensor_72 : decode cX7_sensor 72 = .ok (.getfield 10, 3) := by decide +kernel
theorem dX7_sensor_75 : decode cX7_sensor 75 = .ok (.invokevirtual 56, 3) := by decide +kernel
theorem dX7_sensor_78 : decode cX7_sensor 78 = .ok (.aload_n 0, 1) := by decide +kernel
theorem dX7_sensor_79 : decode cX7_sensor 79 = .ok (.getfield 10, 3) := by decide +kernel
theorem dX7_sensor_82 : decode cX7_sensor 82 = .ok (.dup, 1) := by decide +kernel
theorem dX7_sensor_83 : decode cX7_sensor 83 = .ok (.getfield 118, 3) := by decide +kernel
theorem dX7_sensor_86 : decode cX7_sensor 86 = .ok (.iconst 1, 1) := by decide +kernel
theorem dX7_sensor_87 : decode cX7_sensor 87 = .ok (.iadd, 1) := by decide +kernel
theorem dX7_sensor_88 : decode cX7_sensor 88 = .ok (.putfield 118, 3) := by decide +kernel
theorem dX7_sensor_91 : decode cX7_sensor 91 = .ok (.aload_n 0, 1) := by decide +kernel
theorem dX7_sensor_92 : decode cX7_sensor 92 = .ok (.getfield 10, 3) := by decide +kernel
theorem dX7_sensor_95 : decode cX7_sensor 95 = .ok (.aload_n 0, 1) := by decide +kernel
theorem dX7_sensor_96 : decode cX7_sensor 96 = .ok (.getfield 10, 3) := by decide +kernel
theorem dX7_sensor_99 : decode cX7_sensor 99 = .ok (.getfield 118, 3) := by decide +kernel
theorem dX7_sensor_102 : decode cX7_sensor 102 = .ok (.iconst 1, 1) := by decide +kernel
theorem dX7_sensor_103 : decode cX7_sensor 103 = .ok (.isub, 1) := by decide +kernel
theorem dX7_sensor_104 : decode cX7_sensor 104 = .ok (.invokevirtual 121, 3) := by decide +kernel
theorem dX7_sensor_107 : decode cX7_sensor 107 = .ok (.astore 5, 2) := by decide +kernel
theorem dX7_sensor_109 : decode cX7_sensor 109 = .ok (.aload 5, 2) := by decide +kernel
theorem dX7_sensor_111 : decode cX7_sensor 111 = .ok (.ifnull 17, 3) := by decide +kernel
theorem dX7_sensor_114 : decode cX7_sensor 114 = .ok (.aload 5, 2) := by decide +kernel
theorem dX7_sensor_116 : decode cX7_sensor 116 = .ok (.iload_n 1, 1) := by decide +kernel
theorem dX7_sensor_117 : decode cX7_sensor 117 = .ok (.iload_n 2, 1) := by decide +kernel
theorem dX7_sensor_118 : decode cX7_sensor 118 = .ok (.iload_n 3, 1) := by decide +kernel
theorem dX7_sensor_119 : decode cX7_sensor 119 = .ok (.aload 4, 2) := by decide +kernel
theorem dX7_sensor_121 : decode cX7_sensor 121 = .ok (.iconst 0, 1) := by decide +kernel
theorem dX7_sensor_122 : decode cX7_sensor 122 = .ok (.invokevirtual 125, 3) := by decide +kernel
theorem dX7_sensor_125 : decode cX7_sensor 125 = .ok (.invokevirtual 128, 3) := by decide +kernel
theorem dX7_sensor_128 : decode cX7_sensor 128 = .ok (.aload_n 0, 1) := by decide +kernel
theorem dX7_sensor_129 : decode cX7_sensor 129 = .ok (.getfield 10, 3) := by decide +kernel
theorem dX7_sensor_132 : decode cX7_sensor 132 = .ok (.getfield 118, 3) := by decide +kernel
theorem dX7_sensor_135 : decode cX7_sensor 135 = .ok (.iconst 1, 1) := by decide +kernel
theorem dX7_sensor_136 : decode cX7_sensor 136 = .ok (.isub, 1) := by decide +kernel
theorem dX7_sensor_137 : decode cX7_sensor 137 = .ok (.ireturn, 1) := by decide +kernel
theorem dX7_plug_0 : decode cX7_plug 0 = .ok (.aload_n 0, 1) := by decide +kernel
theorem dX7_plug_1 : decode cX7_plug 1 = .ok (.getfield 10, 3) := by decide +kernel
theorem dX7_plug_4 : decode cX7_plug 4 = .ok (.iload_n 1, 1) := by decide +kernel
theorem dX7_plug_5 : decode cX7_plug 5 = .ok (.invokevirtual 121, 3) := by decide +kernel
theorem dX7_plug_8 : decode cX7_plug 8 = .ok (.astore 4, 2) := by decide +kernel
theorem dX7_plug_10 : decode cX7_plug 10 = .ok (.aload 4, 2) := by decide +kernel
theorem dX7_plug_12 : decode cX7_plug 12 = .ok (.ifnull 11, 3) := by decide +kernel
theorem dX7_plug_15 : decode cX7_plug 15 = .ok (.iload_n 2, 1) := by decide +kernel
theorem dX7_plug_16 : decode cX7_plug 16 = .ok (.iload_n 3, 1) := by decide +kernel
theorem dX7_plug_17 : decode cX7_plug 17 = .ok (.invokestatic 134, 3) := by decide +kernel
theorem dX7_plug_20 : decode cX7_plug 20 = .ok (.ifCond .ne 6, 3) := by decide +kernel
theorem dX7_plug_23 : decode cX7_plug 23 = .ok (.ldc 74, 2) := by decide +kernel
theorem dX7_plug_25 : decode cX7_plug 25 = .ok (.ireturn, 1) := by decide +kernel
theorem dX7_plug_26 : decode cX7_plug 26 = .ok (.iload_n 2, 1) := by decide +kernel
theorem dX7_plug_27 : decode cX7_plug 27 = .ok (.iconst 3, 1) := by decide +kernel
theorem dX7_plug_28 : decode cX7_plug 28 = .ok (.imul, 1) := by decide +kernel
theorem dX7_plug_29 : decode cX7_plug 29 = .ok (.iload_n 3, 1) := by decide +kernel
theorem dX7_plug_30 : decode cX7_plug 30 = .ok (.iadd, 1) := by decide +kernel
theorem dX7_plug_31 : decode cX7_plug 31 = .ok (.istore 5, 2) := by decide +kernel
theorem dX7_plug_33 : decode cX7_plug 33 = .ok (.aload 4, 2) := by decide +kernel
theorem dX7_plug_35 : decode cX7_plug 35 = .ok (.invokevirtual 137, 3) := by decide +kernel
theorem dX7_plug_38 : decode cX7_plug 38 = .ok (.ifCond .ne 25, 3) := by decide +kernel
theorem dX7_plug_41 : decode cX7_plug 41 = .ok (.aload_n 0, 1) := by decide +kernel
theorem dX7_plug_42 : decode cX7_plug 42 = .ok (.getfield 10, 3) := by decide +kernel
theorem dX7_plug_45 : decode cX7_plug 45 = .ok (.iload 5, 2) := by decide +kernel
theorem dX7_plug_47 : decode cX7_plug 47 = .ok (.invokevirtual 141, 3) := by decide +kernel
theorem dX7_plug_50 : decode cX7_plug 50 = .ok (.iconst (-1), 1) := by decide +kernel
theorem dX7_plug_51 : decode cX7_plug 51 = .ok (.if_icmp .ne 12, 3) := by decide +kernel
theorem dX7_plug_54 : decode cX7_plug 54 = .ok (.aload 4, 2) := by decide +kernel
theorem dX7_plug_56 : decode cX7_plug 56 = .ok (.iload_n 2, 1) := by decide +kernel
theorem dX7_plug_57 : decode cX7_plug 57 = .ok (.invokevirtual 144, 3) := by decide +kernel
theorem dX7_plug_60 : decode cX7_plug 60 = .ok (.ifCond .ne 6, 3) := by decide +kernel
theorem dX7_plug_63 : decode cX7_plug 63 = .ok (.ldc 84, 2) := by decide +kernel
theorem dX7_plug_65 : decode cX7_plug 65 = .ok (.ireturn, 1) := by decide +kernel
theorem dX7_plug_66 : decode cX7_plug 66 = .ok (.aload_n 0, 1) := by decide +kernel
theorem dX7_plug_67 : decode cX7_plug 67 = .ok (.getfield 22, 3) := by decide +kernel
theorem dX7_plug_70 : decode cX7_plug 70 = .ok (.aload_n 0, 1) := by decide +kernel
theorem dX7_plug_71 : decode cX7_plug 71 = .ok (.getfield 10, 3) := by decide +kernel
theorem dX7_plug_74 : decode cX7_plug 74 = .ok (.invokevirtual 56, 3) := by decide +kernel
theorem dX7_plug_77 : decode cX7_plug 77 = .ok (.aload 4, 2) := by decide +kernel
theorem dX7_plug_79 : decode cX7_plug 79 = .ok (.iload 5, 2) := by decide +kernel
theorem dX7_plug_81 : decode cX7_plug 81 = .ok (.putfield 147, 3) := by decide +kernel
theorem dX7_plug_84 : decode cX7_plug 84 = .ok (.aload_n 0, 1) := by decide +kernel
theorem dX7_plug_85 : decode cX7_plug 85 = .ok (.getfield 10, 3) := by decide +kernel
theorem dX7_plug_88 : decode cX7_plug 88 = .ok (.iload_n 2, 1) := by decide +kernel
theorem dX7_plug_89 : decode cX7_plug 89 = .ok (.invokevirtual 150, 3) := by decide +kernel
theorem dX7_plug_92 : decode cX7_plug 92 = .ok (.ireturn, 1) := by decide +kernel
theorem dX7_unplug_0 : decode cX7_unplug 0 = .ok (.aload_n 0, 1) := by decide +kernel
theorem dX7_unplug_1 : decode cX7_unplug 1 = .ok (.getfield 10, 3) := by decide +kernel
theorem dX7_unplug_4 : decode cX7_unplug 4 = .ok (.iload_n 1, 1) := by decide +kernel
theorem dX7_unplug_5 : decode cX7_unplug 5 = .ok (.invokevirtual 121, 3) := by decide +kernel
theorem dX7_unplug_8 : decode cX7_unplug 8 = .ok (.astore_n 2, 1) := by decide +kernel
theorem dX7_unplug_9 : decode cX7_unplug 9 = .ok (.aload_n 2, 1) := by decide +kernel
theorem dX7_unplug_10 : decode cX7_unplug 10 = .ok (.ifnonnull 6, 3) := by decide +kernel
theorem dX7_unplug_13 : decode cX7_unplug 13 = .ok (.ldc 74, 2) := by decide +kernel
theorem dX7_unplug_15 : decode cX7_unplug 15 = .ok (.ireturn, 1) := by decide +kernel
theorem dX7_unplug_16 : decode cX7_unplug 16 = .ok (.aload_n 2, 1) := by decide +kernel
theorem dX7_unplug_17 : decode cX7_unplug 17 = .ok (.invokevirtual 137, 3) := by decide +kernel
theorem dX7_unplug_20 : decode cX7_unplug 20 = .ok (.ifCond .ne 6, 3) := by decide +kernel
theorem dX7_unplug_23 : decode cX7_unplug 23 = .ok (.ldc 84, 2) := by decide +kernel
theorem dX7_unplug_25 : decode cX7_unplug 25 = .ok (.ireturn, 1) := by decide +kernel
theorem dX7_unplug_26 : decode cX7_unplug 26 = .ok (.aload_n 0, 1) := by decide +kernel
theorem dX7_unplug_27 : decode cX7_unplug 27 = .ok (.getfield 22, 3) := by decide +kernel
theorem dX7_unplug_30 : decode cX7_unplug 30 = .ok (.aload_n 0, 1) := by decide +kernel
theorem dX7_unplug_31 : decode cX7_unplug 31 = .ok (.getfield 10, 3) := by decide +kernel
theorem dX7_unplug_34 : decode cX7_unplug 34 = .ok (.invokevirtual 56, 3) := by decide +kernel
theorem dX7_unplug_37 : decode cX7_unplug 37 = .ok (.aload_n 2, 1) := by decide +kernel
theorem dX7_unplug_38 : decode cX7_unplug 38 = .ok (.getfield 147, 3) := by decide +kernel
theorem dX7_unplug_41 : decode cX7_unplug 41 = .ok (.istore_n 3, 1) := by decide +kernel
theorem dX7_unplug_42 : decode cX7_unplug 42 = .ok (.aload_n 2, 1) := by decide +kernel
theorem dX7_unplug_43 : decode cX7_unplug 43 = .ok (.iconst (-1), 1) := by decide +kernel
theorem dX7_unplug_44 : decode cX7_unplug 44 = .ok (.putfield 147, 3) := by decide +kernel
theorem dX7_unplug_47 : decode cX7_unplug 47 = .ok (.iload_n 3, 1) := by decide +kernel
theorem dX7_unplug_48 : decode cX7_unplug 48 = .ok (.invokestatic 153, 3) := by decide +kernel
theorem dX7_unplug_51 : decode cX7_unplug 51 = .ok (.ireturn, 1) := by decide +kernel
theorem dX7_slotAt_0 : decode cX7_slotAt 0 = .ok (.iload_n 1, 1) := by decide +kernel
theorem dX7_slotAt_1 : decode cX7_slotAt 1 = .ok (.iload_n 2, 1) := by decide +kernel
theorem dX7_slotAt_2 : decode cX7_slotAt 2 = .ok (.invokestatic 134, 3) := by decide +kernel
theorem dX7_slotAt_5 : decode cX7_slotAt 5 = .ok (.ifCond .ne 6, 3) := by decide +kernel
theorem dX7_slotAt_8 : decode cX7_slotAt 8 = .ok (.ldc 74, 2) := by decide +kernel
theorem dX7_slotAt_10 : decode cX7_slotAt 10 = .ok (.ireturn, 1) := by decide +kernel
theorem dX7_slotAt_11 : decode cX7_slotAt 11 = .ok (.aload_n 0, 1) := by decide +kernel
theorem dX7_slotAt_12 : decode cX7_slotAt 12 = .ok (.getfield 10, 3) := by decide +kernel
theorem dX7_slotAt_15 : decode cX7_slotAt 15 = .ok (.iload_n 1, 1) := by decide +kernel
theorem dX7_slotAt_16 : decode cX7_slotAt 16 = .ok (.iconst 3, 1) := by decide +kernel
theorem dX7_slotAt_17 : decode cX7_slotAt 17 = .ok (.imul, 1) := by decide +kernel
theorem dX7_slotAt_18 : decode cX7_slotAt 18 = .ok (.iload_n 2, 1) := by decide +kernel
theorem dX7_slotAt_19 : decode cX7_slotAt 19 = .ok (.iadd, 1) := by decide +kernel
theorem dX7_slotAt_20 : decode cX7_slotAt 20 = .ok (.invokevirtual 141, 3) := by decide +kernel
theorem dX7_slotAt_23 : decode cX7_slotAt 23 = .ok (.istore_n 3, 1) := by decide +kernel
theorem dX7_slotAt_24 : decode cX7_slotAt 24 = .ok (.iload_n 3, 1) := by decide +kernel
theorem dX7_slotAt_25 : decode cX7_slotAt 25 = .ok (.iconst (-1), 1) := by decide +kernel
theorem dX7_slotAt_26 : decode cX7_slotAt 26 = .ok (.if_icmp .ne 8, 3) := by decide +kernel
theorem dX7_slotAt_29 : decode cX7_slotAt 29 = .ok (.ldc 92, 2) := by decide +kernel
theorem dX7_slotAt_31 : decode cX7_slotAt 31 = .ok (.goto 4, 3) := by decide +kernel
theorem dX7_slotAt_34 : decode cX7_slotAt 34 = .ok (.iload_n 3, 1) := by decide +kernel
theorem dX7_slotAt_35 : decode cX7_slotAt 35 = .ok (.ireturn, 1) := by decide +kernel
theorem dX7_bath_0 : decode cX7_bath 0 = .ok (.aload_n 0, 1) := by decide +kernel
theorem dX7_bath_1 : decode cX7_bath 1 = .ok (.getfield 10, 3) := by decide +kernel
theorem dX7_bath_4 : decode cX7_bath 4 = .ok (.iload_n 1, 1) := by decide +kernel
theorem dX7_bath_5 : decode cX7_bath 5 = .ok (.invokevirtual 121, 3) := by decide +kernel
theorem dX7_bath_8 : decode cX7_bath 8 = .ok (.astore_n 3, 1) := by decide +kernel
theorem dX7_bath_9 : decode cX7_bath 9 = .ok (.aload_n 3, 1) := by decide +kernel
theorem dX7_bath_10 : decode cX7_bath 10 = .ok (.ifnull 10, 3) := by decide +kernel
theorem dX7_bath_13 : decode cX7_bath 13 = .ok (.iload_n 2, 1) := by decide +kernel
theorem dX7_bath_14 : decode cX7_bath 14 = .ok (.invokestatic 64, 3) := by decide +kernel
theorem dX7_bath_17 : decode cX7_bath 17 = .ok (.ifCond .ne 6, 3) := by decide +kernel
theorem dX7_bath_20 : decode cX7_bath 20 = .ok (.ldc 74, 2) := by decide +kernel
theorem dX7_bath_22 : decode cX7_bath 22 = .ok (.ireturn, 1) := by decide +kernel
theorem dX7_bath_23 : decode cX7_bath 23 = .ok (.aload_n 0, 1) := by decide +kernel
theorem dX7_bath_24 : decode cX7_bath 24 = .ok (.getfield 10, 3) := by decide +kernel
theorem dX7_bath_27 : decode cX7_bath 27 = .ok (.aload_n 3, 1) := by decide +kernel
theorem dX7_bath_28 : decode cX7_bath 28 = .ok (.iload_n 2, 1) := by decide +kernel
theorem dX7_bath_29 : decode cX7_bath 29 = .ok (.invokevirtual 156, 3) := by decide +kernel
theorem dX7_bath_32 : decode cX7_bath 32 = .ok (.ifCond .ne 6, 3) := by decide +kernel
theorem dX7_bath_35 : decode cX7_bath 35 = .ok (.ldc 84, 2) := by decide +kernel
theorem dX7_bath_37 : decode cX7_bath 37 = .ok (.ireturn, 1) := by decide +kernel
theorem dX7_bath_38 : decode cX7_bath 38 = .ok (.aload_n 0, 1) := by decide +kernel
theorem dX7_bath_39 : decode cX7_bath 39 = .ok (.getfield 22, 3) := by decide +kernel
theorem dX7_bath_42 : decode cX7_bath 42 = .ok (.aload_n 0, 1) := by decide +kernel
theorem dX7_bath_43 : decode cX7_bath 43 = .ok (.getfield 10, 3) := by decide +kernel
theorem dX7_bath_46 : decode cX7_bath 46 = .ok (.invokevirtual 56, 3) := by decide +kernel
theorem dX7_bath_49 : decode cX7_bath 49 = .ok (.aload_n 3, 1) := by decide +kernel
theorem dX7_bath_50 : decode cX7_bath 50 = .ok (.getfield 160, 3) := by decide +kernel
theorem dX7_bath_53 : decode cX7_bath 53 = .ok (.istore 4, 2) := by decide +kernel
theorem dX7_bath_55 : decode cX7_bath 55 = .ok (.aload_n 3, 1) := by decide +kernel
theorem dX7_bath_56 : decode cX7_bath 56 = .ok (.iload_n 2, 1) := by decide +kernel
theorem dX7_bath_57 : decode cX7_bath 57 = .ok (.putfield 160, 3) := by decide +kernel
theorem dX7_bath_60 : decode cX7_bath 60 = .ok (.iload 4, 2) := by decide +kernel
theorem dX7_bath_62 : decode cX7_bath 62 = .ok (.ireturn, 1) := by decide +kernel
theorem dX7_lead_0 : decode cX7_lead 0 = .ok (.aload_n 0, 1) := by decide +kernel
theorem dX7_lead_1 : decode cX7_lead 1 = .ok (.getfield 10, 3) := by decide +kernel
theorem dX7_lead_4 : decode cX7_lead 4 = .ok (.iload_n 1, 1) := by decide +kernel
theorem dX7_lead_5 : decode cX7_lead 5 = .ok (.invokevirtual 121, 3) := by decide +kernel
theorem dX7_lead_8 : decode cX7_lead 8 = .ok (.astore 4, 2) := by decide +kernel
theorem dX7_lead_10 : decode cX7_lead 10 = .ok (.aload 4, 2) := by decide +kernel
theorem dX7_lead_12 : decode cX7_lead 12 = .ok (.ifnull 24, 3) := by decide +kernel
theorem dX7_lead_15 : decode cX7_lead 15 = .ok (.aload 4, 2) := by decide +kernel
theorem dX7_lead_17 : decode cX7_lead 17 = .ok (.iload_n 2, 1) := by decide +kernel
theorem dX7_lead_18 : decode cX7_lead 18 = .ok (.invokevirtual 163, 3) := by decide +kernel
theorem dX7_lead_21 : decode cX7_lead 21 = .ok (.ifCond .eq 15, 3) := by decide +kernel
theorem dX7_lead_24 : decode cX7_lead 24 = .ok (.iload_n 3, 1) := by decide +kernel
theorem dX7_lead_25 : decode cX7_lead 25 = .ok (.i2l, 1) := by decide +kernel
theorem dX7_lead_26 : decode cX7_lead 26 = .ok (.lconst 0, 1) := by decide +kernel
theorem dX7_lead_27 : decode cX7_lead 27 = .ok (.ldc2_w 166, 3) := by decide +kernel
theorem dX7_lead_30 : decode cX7_lead 30 = .ok (.invokestatic 70, 3) := by decide +kernel
theorem dX7_lead_33 : decode cX7_lead 33 = .ok (.ifCond .ne 6, 3) := by decide +kernel
theorem dX7_lead_36 : decode cX7_lead 36 = .ok (.ldc 74, 2) := by decide +kernel
theorem dX7_lead_38 : decode cX7_lead 38 = .ok (.ireturn, 1) := by decide +kernel
theorem dX7_lead_39 : decode cX7_lead 39 = .ok (.aload_n 0, 1) := by decide +kernel
theorem dX7_lead_40 : decode cX7_lead 40 = .ok (.getfield 22, 3) := by decide +kernel
theorem dX7_lead_43 : decode cX7_lead 43 = .ok (.aload_n 0, 1) := by decide +kernel
theorem dX7_lead_44 : decode cX7_lead 44 = .ok (.getfield 10, 3) := by decide +kernel
theorem dX7_lead_47 : decode cX7_lead 47 = .ok (.invokevirtual 56, 3) := by decide +kernel
theorem dX7_lead_50 : decode cX7_lead 50 = .ok (.aload 4, 2) := by decide +kernel
theorem dX7_lead_52 : decode cX7_lead 52 = .ok (.iload_n 2, 1) := by decide +kernel
theorem dX7_lead_53 : decode cX7_lead 53 = .ok (.invokevirtual 168, 3) := by decide +kernel
theorem dX7_lead_56 : decode cX7_lead 56 = .ok (.istore 5, 2) := by decide +kernel
theorem dX7_lead_58 : decode cX7_lead 58 = .ok (.aload 4, 2) := by decide +kernel
theorem dX7_lead_60 : decode cX7_lead 60 = .ok (.iload_n 2, 1) := by decide +kernel
theorem dX7_lead_61 : decode cX7_lead 61 = .ok (.iload_n 3, 1) := by decide +kernel
theorem dX7_lead_62 : decode cX7_lead 62 = .ok (.invokevirtual 171, 3) := by decide +kernel
theorem dX7_lead_65 : decode cX7_lead 65 = .ok (.iload 5, 2) := by decide +kernel
theorem dX7_lead_67 : decode cX7_lead 67 = .ok (.ireturn, 1) := by decide +kernel
theorem dX7_strain_0 : decode cX7_strain 0 = .ok (.aload_n 0, 1) := by decide +kernel
theorem dX7_strain_1 : decode cX7_strain 1 = .ok (.getfield 10, 3) := by decide +kernel
theorem dX7_strain_4 : decode cX7_strain 4 = .ok (.iload_n 1, 1) := by decide +kernel
theorem dX7_strain_5 : decode cX7_strain 5 = .ok (.invokevirtual 121, 3) := by decide +kernel
theorem dX7_strain_8 : decode cX7_strain 8 = .ok (.astore 4, 2) := by decide +kernel
theorem dX7_strain_10 : decode cX7_strain 10 = .ok (.aload 4, 2) := by decide +kernel
theorem dX7_strain_12 : decode cX7_strain 12 = .ok (.ifnull 17, 3) := by decide +kernel
theorem dX7_strain_15 : decode cX7_strain 15 = .ok (.iload_n 3, 1) := by decide +kernel
theorem dX7_strain_16 : decode cX7_strain 16 = .ok (.iload_n 2, 1) := by decide +kernel
theorem dX7_strain_17 : decode cX7_strain 17 = .ok (.getstatic 174, 3) := by decide +kernel
theorem dX7_strain_20 : decode cX7_strain 20 = .ok (.getstatic 177, 3) := by decide +kernel
theorem dX7_strain_23 : decode cX7_strain 23 = .ok (.invokestatic 180, 3) := by decide +kernel
theorem dX7_strain_26 : decode cX7_strain 26 = .ok (.ifCond .ne 6, 3) := by decide +kernel
theorem dX7_strain_29 : decode cX7_strain 29 = .ok (.ldc 74, 2) := by decide +kernel
theorem dX7_strain_31 : decode cX7_strain 31 = .ok (.ireturn, 1) := by decide +kernel
theorem dX7_strain_32 : decode cX7_strain 32 = .ok (.aload_n 0, 1) := by decide +kernel
theorem dX7_strain_33 : decode cX7_strain 33 = .ok (.getfield 22, 3) := by decide +kernel
theorem dX7_strain_36 : decode cX7_strain 36 = .ok (.aload_n 0, 1) := by decide +kernel
theorem dX7_strain_37 : decode cX7_strain 37 = .ok (.getfield 10, 3) := by decide +kernel
theorem dX7_strain_40 : decode cX7_strain 40 = .ok (.invokevirtual 56, 3) := by decide +kernel
theorem dX7_strain_43 : decode cX7_strain 43 = .ok (.aload 4, 2) := by decide +kernel
theorem dX7_strain_45 : decode cX7_strain 45 = .ok (.iload_n 2, 1) := by decide +kernel
theorem dX7_strain_46 : decode cX7_strain 46 = .ok (.invokevirtual 184, 3) := by decide +kernel
theorem dX7_strain_49 : decode cX7_strain 49 = .ok (.istore 5, 2) := by decide +kernel
theorem dX7_strain_51 : decode cX7_strain 51 = .ok (.aload 4, 2) := by decide +kernel
theorem dX7_strain_53 : decode cX7_strain 53 = .ok (.iload_n 2, 1) := by decide +kernel
theorem dX7_strain_54 : decode cX7_strain 54 = .ok (.iload_n 3, 1) := by decide +kernel
theorem dX7_strain_55 : decode cX7_strain 55 = .ok (.invokevirtual 187, 3) := by decide +kernel
theorem dX7_strain_58 : decode cX7_strain 58 = .ok (.iload 5, 2) := by decide +kernel
theorem dX7_strain_60 : decode cX7_strain 60 = .ok (.ireturn, 1) := by decide +kernel
theorem dX7_cut_0 : decode cX7_cut 0 = .ok (.aload_n 0, 1) := by decide +kernel
theorem dX7_cut_1 : decode cX7_cut 1 = .ok (.getfield 10, 3) := by decide +kernel
theorem dX7_cut_4 : decode cX7_cut 4 = .ok (.iload_n 1, 1) := by decide +kernel
theorem dX7_cut_5 : decode cX7_cut 5 = .ok (.invokevirtual 121, 3) := by decide +kernel
theorem dX7_cut_8 : decode cX7_cut 8 = .ok (.astore 4, 2) := by decide +kernel
theorem dX7_cut_10 : decode cX7_cut 10 = .ok (.aload 4, 2) := by decide +kernel
theorem dX7_cut_12 : decode cX7_cut 12 = .ok (.ifnull 22, 3) := by decide +kernel
theorem dX7_cut_15 : decode cX7_cut 15 = .ok (.aload 4, 2) := by decide +kernel
theorem dX7_cut_17 : decode cX7_cut 17 = .ok (.iload_n 2, 1) := by decide +kernel
theorem dX7_cut_18 : decode cX7_cut 18 = .ok (.invokevirtual 163, 3) := by decide +kernel
theorem dX7_cut_21 : decode cX7_cut 21 = .ok (.ifCond .eq 13, 3) := by decide +kernel
theorem dX7_cut_24 : decode cX7_cut 24 = .ok (.iload_n 3, 1) := by decide +kernel
theorem dX7_cut_25 : decode cX7_cut 25 = .ok (.i2l, 1) := by decide +kernel
theorem dX7_cut_26 : decode cX7_cut 26 = .ok (.lconst 0, 1) := by decide +kernel
theorem dX7_cut_27 : decode cX7_cut 27 = .ok (.lconst 1, 1) := by decide +kernel
theorem dX7_cut_28 : decode cX7_cut 28 = .ok (.invokestatic 70, 3) := by decide +kernel
theorem dX7_cut_31 : decode cX7_cut 31 = .ok (.ifCond .ne 6, 3) := by decide +kernel
theorem dX7_cut_34 : decode cX7_cut 34 = .ok (.ldc 74, 2) := by decide +kernel
theorem dX7_cut_36 : decode cX7_cut 36 = .ok (.ireturn, 1) := by decide +kernel
theorem dX7_cut_37 : decode cX7_cut 37 = .ok (.aload 4, 2) := by decide +kernel
theorem dX7_cut_39 : decode cX7_cut 39 = .ok (.iload_n 2, 1) := by decide +kernel
theorem dX7_cut_40 : decode cX7_cut 40 = .ok (.invokevirtual 190, 3) := by decide +kernel
theorem dX7_cut_43 : decode cX7_cut 43 = .ok (.iload_n 3, 1) := by decide +kernel
theorem dX7_cut_44 : decode cX7_cut 44 = .ok (.iconst 1, 1) := by decide +kernel
theorem dX7_cut_45 : decode cX7_cut 45 = .ok (.if_icmp .ne 7, 3) := by decide +kernel
theorem dX7_cut_48 : decode cX7_cut 48 = .ok (.iconst 1, 1) := by decide +kernel
theorem dX7_cut_49 : decode cX7_cut 49 = .ok (.goto 4, 3) := by decide +kernel
theorem dX7_cut_52 : decode cX7_cut 52 = .ok (.iconst 0, 1) := by decide +kernel
theorem dX7_cut_53 : decode cX7_cut 53 = .ok (.if_icmp .ne 6, 3) := by decide +kernel
theorem dX7_cut_56 : decode cX7_cut 56 = .ok (.ldc 84, 2) := by decide +kernel
theorem dX7_cut_58 : decode cX7_cut 58 = .ok (.ireturn, 1) := by decide +kernel
theorem dX7_cut_59 : decode cX7_cut 59 = .ok (.aload_n 0, 1) := by decide +kernel
theorem dX7_cut_60 : decode cX7_cut 60 = .ok (.getfield 22, 3) := by decide +kernel
theorem dX7_cut_63 : decode cX7_cut 63 = .ok (.aload_n 0, 1) := by decide +kernel
theorem dX7_cut_64 : decode cX7_cut 64 = .ok (.getfield 10, 3) := by decide +kernel
theorem dX7_cut_67 : decode cX7_cut 67 = .ok (.invokevirtual 56, 3) := by decide +kernel
theorem dX7_cut_70 : decode cX7_cut 70 = .ok (.aload 4, 2) := by decide +kernel
theorem dX7_cut_72 : decode cX7_cut 72 = .ok (.iload_n 2, 1) := by decide +kernel
theorem dX7_cut_73 : decode cX7_cut 73 = .ok (.invokevirtual 193, 3) := by decide +kernel
theorem dX7_cut_76 : decode cX7_cut 76 = .ok (.aload 4, 2) := by decide +kernel
theorem dX7_cut_78 : decode cX7_cut 78 = .ok (.getfield 197, 3) := by decide +kernel
theorem dX7_cut_81 : decode cX7_cut 81 = .ok (.invokestatic 200, 3) := by decide +kernel
theorem dX7_cut_84 : decode cX7_cut 84 = .ok (.ireturn, 1) := by decide +kernel
theorem dX7_drift_0 : decode cX7_drift 0 = .ok (.aload_n 0, 1) := by decide +kernel
theorem dX7_drift_1 : decode cX7_drift 1 = .ok (.getfield 10, 3) := by decide +kernel
theorem dX7_drift_4 : decode cX7_drift 4 = .ok (.iload_n 1, 1) := by decide +kernel
theorem dX7_drift_5 : decode cX7_drift 5 = .ok (.invokevirtual 121, 3) := by decide +kernel
theorem dX7_drift_8 : decode cX7_drift 8 = .ok (.astore_n 3, 1) := by decide +kernel
theorem dX7_drift_9 : decode cX7_drift 9 = .ok (.aload_n 3, 1) := by decide +kernel
theorem dX7_drift_10 : decode cX7_drift 10 = .ok (.ifnull 17, 3) := by decide +kernel
theorem dX7_drift_13 : decode cX7_drift 13 = .ok (.iload_n 2, 1) := by decide +kernel
theorem dX7_drift_14 : decode cX7_drift 14 = .ok (.i2l, 1) := by decide +kernel
theorem dX7_drift_15 : decode cX7_drift 15 = .ok (.ldc2_w 205, 3) := by decide +kernel
theorem dX7_drift_18 : decode cX7_drift 18 = .ok (.ldc2_w 207, 3) := by decide +kernel
theorem dX7_drift_21 : decode cX7_drift 21 = .ok (.invokestatic 70, 3) := by decide +kernel
theorem dX7_drift_24 : decode cX7_drift 24 = .ok (.ifCond .ne 6, 3) := by decide +kernel
theorem dX7_drift_27 : decode cX7_drift 27 = .ok (.ldc 74, 2) := by decide +kernel
theorem dX7_drift_29 : decode cX7_drift 29 = .ok (.ireturn, 1) := by decide +kernel
theorem dX7_drift_30 : decode cX7_drift 30 = .ok (.aload_n 3, 1) := by decide +kernel
theorem dX7_drift_31 : decode cX7_drift 31 = .ok (.getfield 209, 3) := by decide +kernel
theorem dX7_drift_34 : decode cX7_drift 34 = .ok (.i2l, 1) := by decide +kernel
theorem dX7_drift_35 : decode cX7_drift 35 = .ok (.ldc2_w 212, 3) := by decide +kernel
theorem dX7_drift_38 : decode cX7_drift 38 = .ok (.iload_n 2, 1) := by decide +kernel
theorem dX7_drift_39 : decode cX7_drift 39 = .ok (.i2l, 1) := by decide +kernel
theorem dX7_drift_40 : decode cX7_drift 40 = .ok (.ladd, 1) := by decide +kernel
theorem dX7_drift_41 : decode cX7_drift 41 = .ok (.lmul, 1) := by decide +kernel
theorem dX7_drift_42 : decode cX7_drift 42 = .ok (.ldc2_w 212, 3) := by decide +kernel
theorem dX7_drift_45 : decode cX7_drift 45 = .ok (.ldiv, 1) := by decide +kernel
theorem dX7_drift_46 : decode cX7_drift 46 = .ok (.lstore 4, 2) := by decide +kernel
theorem dX7_drift_48 : decode cX7_drift 48 = .ok (.lload 4, 2) := by decide +kernel
theorem dX7_drift_50 : decode cX7_drift 50 = .ok (.invokestatic 114, 3) := by decide +kernel
theorem dX7_drift_53 : decode cX7_drift 53 = .ok (.ifCond .ne 6, 3) := by decide +kernel
theorem dX7_drift_56 : decode cX7_drift 56 = .ok (.ldc 84, 2) := by decide +kernel
theorem dX7_drift_58 : decode cX7_drift 58 = .ok (.ireturn, 1) := by decide +kernel
theorem dX7_drift_59 : decode cX7_drift 59 = .ok (.aload_n 0, 1) := by decide +kernel
theorem dX7_drift_60 : decode cX7_drift 60 = .ok (.getfield 22, 3) := by decide +kernel
theorem dX7_drift_63 : decode cX7_drift 63 = .ok (.aload_n 0, 1) := by decide +kernel
theorem dX7_drift_64 : decode cX7_drift 64 = .ok (.getfield 10, 3) := by decide +kernel
theorem dX7_drift_67 : decode cX7_drift 67 = .ok (.invokevirtual 56, 3) := by decide +kernel
theorem dX7_drift_70 : decode cX7_drift 70 = .ok (.aload_n 3, 1) := by decide +kernel
theorem dX7_drift_71 : decode cX7_drift 71 = .ok (.lload 4, 2) := by decide +kernel
theorem dX7_drift_73 : decode cX7_drift 73 = .ok (.l2i, 1) := by decide +kernel
theorem dX7_drift_74 : decode cX7_drift 74 = .ok (.putfield 209, 3) := by decide +kernel
theorem dX7_drift_77 : decode cX7_drift 77 = .ok (.aload_n 3, 1) := by decide +kernel
theorem dX7_drift_78 : decode cX7_drift 78 = .ok (.getfield 209, 3) := by decide +kernel
theorem dX7_drift_81 : decode cX7_drift 81 = .ok (.ireturn, 1) := by decide +kernel
theorem dX7_calibrate_0 : decode cX7_calibrate 0 = .ok (.aload_n 0, 1) := by decide +kernel
theorem dX7_calibrate_1 : decode cX7_calibrate 1 = .ok (.getfield 10, 3) := by decide +kernel
theorem dX7_calibrate_4 : decode cX7_calibrate 4 = .ok (.iload_n 1, 1) := by decide +kernel
theorem dX7_calibrate_5 : decode cX7_calibrate 5 = .ok (.invokevirtual 121, 3) := by decide +kernel
theorem dX7_calibrate_8 : decode cX7_calibrate 8 = .ok (.astore_n 3, 1) := by decide +kernel
theorem dX7_calibrate_9 : decode cX7_calibrate 9 = .ok (.aload_n 3, 1) := by decide +kernel
theorem dX7_calibrate_10 : decode cX7_calibrate 10 = .ok (.ifnull 10, 3) := by decide +kernel
theorem dX7_calibrate_13 : decode cX7_calibrate 13 = .ok (.iload_n 2, 1) := by decide +kernel
theorem dX7_calibrate_14 : decode cX7_calibrate 14 = .ok (.invokestatic 64, 3) := by decide +kernel
theorem dX7_calibrate_17 : decode cX7_calibrate 17 = .ok (.ifCond .ne 6, 3) := by decide +kernel
theorem dX7_calibrate_20 : decode cX7_calibrate 20 = .ok (.ldc 74, 2) := by decide +kernel
theorem dX7_calibrate_22 : decode cX7_calibrate 22 = .ok (.ireturn, 1) := by decide +kernel
theorem dX7_calibrate_23 : decode cX7_calibrate 23 = .ok (.aload_n 0, 1) := by decide +kernel
theorem dX7_calibrate_24 : decode cX7_calibrate 24 = .ok (.getfield 29, 3) := by decide +kernel
theorem dX7_calibrate_27 : decode cX7_calibrate 27 = .ok (.aload_n 0, 1) := by decide +kernel
theorem dX7_calibrate_28 : decode cX7_calibrate 28 = .ok (.getfield 10, 3) := by decide +kernel
theorem dX7_calibrate_31 : decode cX7_calibrate 31 = .ok (.aload_n 3, 1) := by decide +kernel
theorem dX7_calibrate_32 : decode cX7_calibrate 32 = .ok (.invokevirtual 214, 3) := by decide +kernel
theorem dX7_calibrate_35 : decode cX7_calibrate 35 = .ok (.aload_n 0, 1) := by decide +kernel
theorem dX7_calibrate_36 : decode cX7_calibrate 36 = .ok (.getfield 29, 3) := by decide +kernel
theorem dX7_calibrate_39 : decode cX7_calibrate 39 = .ok (.getfield 218, 3) := by decide +kernel
theorem dX7_calibrate_42 : decode cX7_calibrate 42 = .ok (.i2l, 1) := by decide +kernel
theorem dX7_calibrate_43 : decode cX7_calibrate 43 = .ok (.lconst 1, 1) := by decide +kernel
theorem dX7_calibrate_44 : decode cX7_calibrate 44 = .ok (.ldc2_w 112, 3) := by decide +kernel
theorem dX7_calibrate_47 : decode cX7_calibrate 47 = .ok (.invokestatic 70, 3) := by decide +kernel
theorem dX7_calibrate_50 : decode cX7_calibrate 50 = .ok (.istore 4, 2) := by decide +kernel
theorem dX7_calibrate_52 : decode cX7_calibrate 52 = .ok (.iload 4, 2) := by decide +kernel
theorem dX7_calibrate_54 : decode cX7_calibrate 54 = .ok (.ifCond .ne 15, 3) := by decide +kernel
theorem dX7_calibrate_57 : decode cX7_calibrate 57 = .ok (.aload_n 0, 1) := by decide +kernel
theorem dX7_calibrate_58 : decode cX7_calibrate 58 = .ok (.getfield 10, 3) := by decide +kernel
theorem dX7_calibrate_61 : decode cX7_calibrate 61 = .ok (.aload_n 3, 1) := by decide +kernel
theorem dX7_calibrate_62 : decode cX7_calibrate 62 = .ok (.iload_n 2, 1) := by decide +kernel
theorem dX7_calibrate_63 : decode cX7_calibrate 63 = .ok (.invokevirtual 156, 3) := by decide +kernel
theorem dX7_calibrate_66 : decode cX7_calibrate 66 = .ok (.ifCond .ne 6, 3) := by decide +kernel
theorem dX7_calibrate_69 : decode cX7_calibrate 69 = .ok (.ldc 84, 2) := by decide +kernel
theorem dX7_calibrate_71 : decode cX7_calibrate 71 = .ok (.ireturn, 1) := by decide +kernel
theorem dX7_calibrate_72 : decode cX7_calibrate 72 = .ok (.aload_n 0, 1) := by decide +kernel
theorem dX7_calibrate_73 : decode cX7_calibrate 73 = .ok (.getfield 10, 3) := by decide +kernel
theorem dX7_calibrate_76 : decode cX7_calibrate 76 = .ok (.aload_n 3, 1) := by decide +kernel
theorem dX7_calibrate_77 : decode cX7_calibrate 77 = .ok (.aload_n 0, 1) := by decide +kernel
theorem dX7_calibrate_78 : decode cX7_calibrate 78 = .ok (.getfield 29, 3) := by decide +kernel
theorem dX7_calibrate_81 : decode cX7_calibrate 81 = .ok (.getfield 221, 3) := by decide +kernel
theorem dX7_calibrate_84 : decode cX7_calibrate 84 = .ok (.iload_n 2, 1) := by decide +kernel
theorem dX7_calibrate_85 : decode cX7_calibrate 85 = .ok (.invokevirtual 225, 3) := by decide +kernel
theorem dX7_calibrate_88 : decode cX7_calibrate 88 = .ok (.lstore 5, 2) := by decide +kernel
theorem dX7_calibrate_90 : decode cX7_calibrate 90 = .ok (.lload 5, 2) := by decide +kernel
theorem dX7_calibrate_92 : decode cX7_calibrate 92 = .ok (.invokestatic 114, 3) := by decide +kernel
theorem dX7_calibrate_95 : decode cX7_calibrate 95 = .ok (.ifCond .ne 6, 3) := by decide +kernel
theorem dX7_calibrate_98 : decode cX7_calibrate 98 = .ok (.ldc 84, 2) := by decide +kernel
theorem dX7_calibrate_100 : decode cX7_calibrate 100 = .ok (.ireturn, 1) := by decide +kernel
theorem dX7_calibrate_101 : decode cX7_calibrate 101 = .ok (.aload_n 0, 1) := by decide +kernel
theorem dX7_calibrate_102 : decode cX7_calibrate 102 = .ok (.getfield 22, 3) := by decide +kernel
theorem dX7_calibrate_105 : decode cX7_calibrate 105 = .ok (.aload_n 0, 1) := by decide +kernel
theorem dX7_calibrate_106 : decode cX7_calibrate 106 = .ok (.getfield 10, 3) := by decide +kernel
theorem dX7_calibrate_109 : decode cX7_calibrate 109 = .ok (.invokevirtual 56, 3) := by decide +kernel
theorem dX7_calibrate_112 : decode cX7_calibrate 112 = .ok (.aload_n 3, 1) := by decide +kernel
theorem dX7_calibrate_113 : decode cX7_calibrate 113 = .ok (.lload 5, 2) := by decide +kernel
theorem dX7_calibrate_115 : decode cX7_calibrate 115 = .ok (.l2i, 1) := by decide +kernel
theorem dX7_calibrate_116 : decode cX7_calibrate 116 = .ok (.putfield 229, 3) := by decide +kernel
theorem dX7_calibrate_119 : decode cX7_calibrate 119 = .ok (.aload_n 3, 1) := by decide +kernel
theorem dX7_calibrate_120 : decode cX7_calibrate 120 = .ok (.getfield 229, 3) := by decide +kernel
theorem dX7_calibrate_123 : decode cX7_calibrate 123 = .ok (.ireturn, 1) := by decide +kernel
theorem dX7_limits_0 : decode cX7_limits 0 = .ok (.aload_n 0, 1) := by decide +kernel
theorem dX7_limits_1 : decode cX7_limits 1 = .ok (.getfield 10, 3) := by decide +kernel
theorem dX7_limits_4 : decode cX7_limits 4 = .ok (.iload_n 1, 1) := by decide +kernel
theorem dX7_limits_5 : decode cX7_limits 5 = .ok (.invokevirtual 121, 3) := by decide +kernel
theorem dX7_limits_8 : decode cX7_limits 8 = .ok (.astore 5, 2) := by decide +kernel
theorem dX7_limits_10 : decode cX7_limits 10 = .ok (.aload 5, 2) := by decide +kernel
theorem dX7_limits_12 : decode cX7_limits 12 = .ok (.ifnull 36, 3) := by decide +kernel
theorem dX7_limits_15 : decode cX7_limits 15 = .ok (.iload_n 2, 1) := by decide +kernel
theorem dX7_limits_16 : decode cX7_limits 16 = .ok (.invokestatic 64, 3) := by decide +kernel
theorem dX7_limits_19 : decode cX7_limits 19 = .ok (.ifCond .eq 29, 3) := by decide +kernel
theorem dX7_limits_22 : decode cX7_limits 22 = .ok (.iload_n 3, 1) := by decide +kernel
theorem dX7_limits_23 : decode cX7_limits 23 = .ok (.i2l, 1) := by decide +kernel
theorem dX7_limits_24 : decode cX7_limits 24 = .ok (.iload_n 2, 1) := by decide +kernel
theorem dX7_limits_25 : decode cX7_limits 25 = .ok (.i2l, 1) := by decide +kernel
theorem dX7_limits_26 : decode cX7_limits 26 = .ok (.ldc2_w 232, 3) := by decide +kernel
theorem dX7_limits_29 : decode cX7_limits 29 = .ok (.invokestatic 70, 3) := by decide +kernel
theorem dX7_limits_32 : decode cX7_limits 32 = .ok (.ifCond .eq 16, 3) := by decide +kernel
theorem dX7_limits_35 : decode cX7_limits 35 = .ok (.iload 4, 2) := by decide +kernel
theorem dX7_limits_37 : decode cX7_limits 37 = .ok (.i2l, 1) := by decide +kernel
theorem dX7_limits_38 : decode cX7_limits 38 = .ok (.lconst 0, 1) := by decide +kernel
theorem dX7_limits_39 : decode cX7_limits 39 = .ok (.ldc2_w 207, 3) := by decide +kernel
theorem dX7_limits_42 : decode cX7_limits 42 = .ok (.invokestatic 70, 3) := by decide +kernel
theorem dX7_limits_45 : decode cX7_limits 45 = .ok (.ifCond .ne 6, 3) := by decide +kernel
theorem dX7_limits_48 : decode cX7_limits 48 = .ok (.ldc 74, 2) := by decide +kernel
theorem dX7_limits_50 : decode cX7_limits 50 = .ok (.ireturn, 1) := by decide +kernel
theorem dX7_limits_51 : decode cX7_limits 51 = .ok (.aload_n 0, 1) := by decide +kernel
theorem dX7_limits_52 : decode cX7_limits 52 = .ok (.getfield 22, 3) := by decide +kernel
theorem dX7_limits_55 : decode cX7_limits 55 = .ok (.aload_n 0, 1) := by decide +kernel
theorem dX7_limits_56 : decode cX7_limits 56 = .ok (.getfield 10, 3) := by decide +kernel
theorem dX7_limits_59 : decode cX7_limits 59 = .ok (.invokevirtual 56, 3) := by decide +kernel
theorem dX7_limits_62 : decode cX7_limits 62 = .ok (.aload 5, 2) := by decide +kernel
theorem dX7_limits_64 : decode cX7_limits 64 = .ok (.getfield 234, 3) := by decide +kernel
theorem dX7_limits_67 : decode cX7_limits 67 = .ok (.istore 6, 2) := by decide +kernel
theorem dX7_limits_69 : decode cX7_limits 69 = .ok (.aload 5, 2) := by decide +kernel
theorem dX7_limits_71 : decode cX7_limits 71 = .ok (.iload_n 2, 1) := by decide +kernel
theorem dX7_limits_72 : decode cX7_limits 72 = .ok (.iload_n 3, 1) := by decide +kernel
theorem dX7_limits_73 : decode cX7_limits 73 = .ok (.iload 4, 2) := by decide +kernel
theorem dX7_limits_75 : decode cX7_limits 75 = .ok (.invokevirtual 237, 3) := by decide +kernel
theorem dX7_limits_78 : decode cX7_limits 78 = .ok (.iload 6, 2) := by decide +kernel
theorem dX7_limits_80 : decode cX7_limits 80 = .ok (.ireturn, 1) := by decide +kernel
theorem dX7_sensorOf_0 : decode cX7_sensorOf 0 = .ok (.aload_n 0, 1) := by decide +kernel
theorem dX7_sensorOf_1 : decode cX7_sensorOf 1 = .ok (.getfield 10, 3) := by decide +kernel
theorem dX7_sensorOf_4 : decode cX7_sensorOf 4 = .ok (.iload_n 1, 1) := by decide +kernel
theorem dX7_sensorOf_5 : decode cX7_sensorOf 5 = .ok (.invokevirtual 121, 3) := by decide +kernel
theorem dX7_sensorOf_8 : decode cX7_sensorOf 8 = .ok (.astore_n 3, 1) := by decide +kernel
theorem dX7_sensorOf_9 : decode cX7_sensorOf 9 = .ok (.aload_n 3, 1) := by decide +kernel
theorem dX7_sensorOf_10 : decode cX7_sensorOf 10 = .ok (.ifnull 15, 3) := by decide +kernel
theorem dX7_sensorOf_13 : decode cX7_sensorOf 13 = .ok (.iload_n 2, 1) := by decide +kernel
theorem dX7_sensorOf_14 : decode cX7_sensorOf 14 = .ok (.i2l, 1) := by decide +kernel
theorem dX7_sensorOf_15 : decode cX7_sensorOf 15 = .ok (.lconst 0, 1) := by decide +kernel
theorem dX7_sensorOf_16 : decode cX7_sensorOf 16 = .ok (.ldc2_w 241, 3) := by decide +kernel
theorem dX7_sensorOf_19 : decode cX7_sensorOf 19 = .ok (.invokestatic 70, 3) := by decide +kernel
theorem dX7_sensorOf_22 : decode cX7_sensorOf 22 = .ok (.ifCond .ne 6, 3) := by decide +kernel
theorem dX7_sensorOf_25 : decode cX7_sensorOf 25 = .ok (.ldc 74, 2) := by decide +kernel
theorem dX7_sensorOf_27 : decode cX7_sensorOf 27 = .ok (.ireturn, 1) := by decide +kernel
theorem dX7_sensorOf_28 : decode cX7_sensorOf 28 = .ok (.iload_n 2, 1) := by decide +kernel
theorem dX7_sensorOf_29 : decode cX7_sensorOf 29 = .ok (.i2l, 1) := by decide +kernel
theorem dX7_sensorOf_30 : decode cX7_sensorOf 30 = .ok (.ldc2_w 243, 3) := by decide +kernel
theorem dX7_sensorOf_33 : decode cX7_sensorOf 33 = .ok (.ldc2_w 245, 3) := by decide +kernel
theorem dX7_sensorOf_36 : decode cX7_sensorOf 36 = .ok (.invokestatic 70, 3) := by decide +kernel
theorem dX7_sensorOf_39 : decode cX7_sensorOf 39 = .ok (.ifCond .eq 26, 3) := by decide +kernel
theorem dX7_sensorOf_42 : decode cX7_sensorOf 42 = .ok (.aload_n 3, 1) := by decide +kernel
theorem dX7_sensorOf_43 : decode cX7_sensorOf 43 = .ok (.iload_n 2, 1) := by decide +kernel
theorem dX7_sensorOf_44 : decode cX7_sensorOf 44 = .ok (.iconst 5, 1) := by decide +kernel
theorem dX7_sensorOf_45 : decode cX7_sensorOf 45 = .ok (.isub, 1) := by decide +kernel
theorem dX7_sensorOf_46 : decode cX7_sensorOf 46 = .ok (.invokevirtual 163, 3) := by decide +kernel
theorem dX7_sensorOf_49 : decode cX7_sensorOf 49 = .ok (.ifCond .eq 13, 3) := by decide +kernel
theorem dX7_sensorOf_52 : decode cX7_sensorOf 52 = .ok (.aload_n 3, 1) := by decide +kernel
theorem dX7_sensorOf_53 : decode cX7_sensorOf 53 = .ok (.iload_n 2, 1) := by decide +kernel
theorem dX7_sensorOf_54 : decode cX7_sensorOf 54 = .ok (.iconst 5, 1) := by decide +kernel
theorem dX7_sensorOf_55 : decode cX7_sensorOf 55 = .ok (.isub, 1) := by decide +kernel
theorem dX7_sensorOf_56 : decode cX7_sensorOf 56 = .ok (.invokevirtual 168, 3) := by decide +kernel
theorem dX7_sensorOf_59 : decode cX7_sensorOf 59 = .ok (.goto 5, 3) := by decide +kernel
theorem dX7_sensorOf_62 : decode cX7_sensorOf 62 = .ok (.ldc 92, 2) := by decide +kernel
theorem dX7_sensorOf_64 : decode cX7_sensorOf 64 = .ok (.ireturn, 1) := by decide +kernel
theorem dX7_sensorOf_65 : decode cX7_sensorOf 65 = .ok (.iload_n 2, 1) := by decide +kernel
theorem dX7_sensorOf_66 : decode cX7_sensorOf 66 = .ok (.i2l, 1) := by decide +kernel
theorem dX7_sensorOf_67 : decode cX7_sensorOf 67 = .ok (.ldc2_w 247, 3) := by decide +kernel
theorem dX7_sensorOf_70 : decode cX7_sensorOf 70 = .ok (.ldc2_w 249, 3) := by decide +kernel
theorem dX7_sensorOf_73 : decode cX7_sensorOf 73 = .ok (.invokestatic 70, 3) := by decide +kernel
theorem dX7_sensorOf_76 : decode cX7_sensorOf 76 = .ok (.ifCond .eq 12, 3) := by decide +kernel
theorem dX7_sensorOf_79 : decode cX7_sensorOf 79 = .ok (.aload_n 3, 1) := by decide +kernel
theorem dX7_sensorOf_80 : decode cX7_sensorOf 80 = .ok (.iload_n 2, 1) := by decide +kernel
theorem dX7_sensorOf_81 : decode cX7_sensorOf 81 = .ok (.bipush 9, 2) := by decide +kernel
theorem dX7_sensorOf_83 : decode cX7_sensorOf 83 = .ok (.isub, 1) := by decide +kernel
theorem dX7_sensorOf_84 : decode cX7_sensorOf 84 = .ok (.invokevirtual 184, 3) := by decide +kernel
theorem dX7_sensorOf_87 : decode cX7_sensorOf 87 = .ok (.ireturn, 1) := by decide +kernel
theorem dX7_sensorOf_88 : decode cX7_sensorOf 88 = .ok (.iload_n 2, 1) := by decide +kernel
theorem dX7_sensorOf_89 : decode cX7_sensorOf 89 = .ok (.tableswitch 157 0 17 #[87, 92, 97, 102, 107, 157, 157, 157, 157, 157, 157, 157, 112, 117, 137, 142, 147, 152], 87) := by decide +kernel
theorem dX7_sensorOf_176 : decode cX7_sensorOf 176 = .ok (.aload_n 3, 1) := by decide +kernel
theorem dX7_sensorOf_177 : decode cX7_sensorOf 177 = .ok (.getfield 251, 3) := by decide +kernel
theorem dX7_sensorOf_180 : decode cX7_sensorOf 180 = .ok (.ireturn, 1) := by decide +kernel
theorem dX7_sensorOf_181 : decode cX7_sensorOf 181 = .ok (.aload_n 3, 1) := by decide +kernel
theorem dX7_sensorOf_182 : decode cX7_sensorOf 182 = .ok (.getfield 254, 3) := by decide +kernel
theorem dX7_sensorOf_185 : decode cX7_sensorOf 185 = .ok (.ireturn, 1) := by decide +kernel
theorem dX7_sensorOf_186 : decode cX7_sensorOf 186 = .ok (.aload_n 3, 1) := by decide +kernel
theorem dX7_sensorOf_187 : decode cX7_sensorOf 187 = .ok (.getfield 209, 3) := by decide +kernel
theorem dX7_sensorOf_190 : decode cX7_sensorOf 190 = .ok (.ireturn, 1) := by decide +kernel
theorem dX7_sensorOf_191 : decode cX7_sensorOf 191 = .ok (.aload_n 3, 1) := by decide +kernel
theorem dX7_sensorOf_192 : decode cX7_sensorOf 192 = .ok (.getfield 229, 3) := by decide +kernel
theorem dX7_sensorOf_195 : decode cX7_sensorOf 195 = .ok (.ireturn, 1) := by decide +kernel
theorem dX7_sensorOf_196 : decode cX7_sensorOf 196 = .ok (.aload_n 3, 1) := by decide +kernel
theorem dX7_sensorOf_197 : decode cX7_sensorOf 197 = .ok (.getfield 160, 3) := by decide +kernel
theorem dX7_sensorOf_200 : decode cX7_sensorOf 200 = .ok (.ireturn, 1) := by decide +kernel
theorem dX7_sensorOf_201 : decode cX7_sensorOf 201 = .ok (.aload_n 3, 1) := by decide +kernel
theorem dX7_sensorOf_202 : decode cX7_sensorOf 202 = .ok (.getfield 197, 3) := by decide +kernel
theorem dX7_sensorOf_205 : decode cX7_sensorOf 205 = .ok (.ireturn, 1) := by decide +kernel
theorem dX7_sensorOf_206 : decode cX7_sensorOf 206 = .ok (.aload_n 3, 1) := by decide +kernel
theorem dX7_sensorOf_207 : decode cX7_sensorOf 207 = .ok (.invokevirtual 137, 3) := by decide +kernel
theorem dX7_sensorOf_210 : decode cX7_sensorOf 210 = .ok (.ifCond .eq 13, 3) := by decide +kernel
theorem dX7_sensorOf_213 : decode cX7_sensorOf 213 = .ok (.aload_n 3, 1) := by decide +kernel
theorem dX7_sensorOf_214 : decode cX7_sensorOf 214 = .ok (.getfield 147, 3) := by decide +kernel
theorem dX7_sensorOf_217 : decode cX7_sensorOf 217 = .ok (.invokestatic 153, 3) := by decide +kernel
theorem dX7_sensorOf_220 : decode cX7_sensorOf 220 = .ok (.goto 5, 3) := by decide +kernel
theorem dX7_sensorOf_223 : decode cX7_sensorOf 223 = .ok (.ldc 92, 2) := by decide +kernel
theorem dX7_sensorOf_225 : decode cX7_sensorOf 225 = .ok (.ireturn, 1) := by decide +kernel
theorem dX7_sensorOf_226 : decode cX7_sensorOf 226 = .ok (.aload_n 3, 1) := by decide +kernel
theorem dX7_sensorOf_227 : decode cX7_sensorOf 227 = .ok (.getfield 257, 3) := by decide +kernel
theorem dX7_sensorOf_230 : decode cX7_sensorOf 230 = .ok (.ireturn, 1) := by decide +kernel
theorem dX7_sensorOf_231 : decode cX7_sensorOf 231 = .ok (.aload_n 3, 1) := by decide +kernel
theorem dX7_sensorOf_232 : decode cX7_sensorOf 232 = .ok (.getfield 260, 3) := by decide +kernel
theorem dX7_sensorOf_235 : decode cX7_sensorOf 235 = .ok (.ireturn, 1) := by decide +kernel
theorem dX7_sensorOf_236 : decode cX7_sensorOf 236 = .ok (.aload_n 3, 1) := by decide +kernel
theorem dX7_sensorOf_237 : decode cX7_sensorOf 237 = .ok (.getfield 263, 3) := by decide +kernel
theorem dX7_sensorOf_240 : decode cX7_sensorOf 240 = .ok (.ireturn, 1) := by decide +kernel
theorem dX7_sensorOf_241 : decode cX7_sensorOf 241 = .ok (.aload_n 3, 1) := by decide +kernel
theorem dX7_sensorOf_242 : decode cX7_sensorOf 242 = .ok (.getfield 234, 3) := by decide +kernel
theorem dX7_sensorOf_245 : decode cX7_sensorOf 245 = .ok (.ireturn, 1) := by decide +kernel
theorem dX7_sensorOf_246 : decode cX7_sensorOf 246 = .ok (.aload_n 3, 1) := by decide +kernel
theorem dX7_sensorOf_247 : decode cX7_sensorOf 247 = .ok (.getfield 266, 3) := by decide +kernel
theorem dX7_sensorOf_250 : decode cX7_sensorOf 250 = .ok (.ireturn, 1) := by decide +kernel
theorem dX7_set_0 : decode cX7_set 0 = .ok (.iload_n 2, 1) := by decide +kernel
theorem dX7_set_1 : decode cX7_set 1 = .ok (.iload_n 1, 1) := by decide +kernel
theorem dX7_set_2 : decode cX7_set 2 = .ok (.getstatic 269, 3) := by decide +kernel
theorem dX7_set_5 : decode cX7_set 5 = .ok (.getstatic 272, 3) := by decide +kernel
theorem dX7_set_8 : decode cX7_set 8 = .ok (.invokestatic 180, 3) := by decide +kernel
theorem dX7_set_11 : decode cX7_set 11 = .ok (.ifCond .ne 6, 3) := by decide +kernel
theorem dX7_set_14 : decode cX7_set 14 = .ok (.ldc 74, 2) := by decide +kernel
theorem dX7_set_16 : decode cX7_set 16 = .ok (.ireturn, 1) := by decide +kernel
theorem dX7_set_17 : decode cX7_set 17 = .ok (.aload_n 0, 1) := by decide +kernel
theorem dX7_set_18 : decode cX7_set 18 = .ok (.getfield 22, 3) := by decide +kernel
theorem dX7_set_21 : decode cX7_set 21 = .ok (.aload_n 0, 1) := by decide +kernel
theorem dX7_set_22 : decode cX7_set 22 = .ok (.getfield 10, 3) := by decide +kernel
theorem dX7_set_25 : decode cX7_set 25 = .ok (.invokevirtual 56, 3) := by decide +kernel
theorem dX7_set_28 : decode cX7_set 28 = .ok (.aload_n 0, 1) := by decide +kernel
theorem dX7_set_29 : decode cX7_set 29 = .ok (.getfield 10, 3) := by decide +kernel
theorem dX7_set_32 : decode cX7_set 32 = .ok (.iload_n 1, 1) := by decide +kernel
theorem dX7_set_33 : decode cX7_set 33 = .ok (.invokevirtual 275, 3) := by decide +kernel
theorem dX7_set_36 : decode cX7_set 36 = .ok (.istore_n 3, 1) := by decide +kernel
theorem dX7_set_37 : decode cX7_set 37 = .ok (.aload_n 0, 1) := by decide +kernel
theorem dX7_set_38 : decode cX7_set 38 = .ok (.getfield 10, 3) := by decide +kernel
theorem dX7_set_41 : decode cX7_set 41 = .ok (.iload_n 1, 1) := by decide +kernel
theorem dX7_set_42 : decode cX7_set 42 = .ok (.iload_n 2, 1) := by decide +kernel
theorem dX7_set_43 : decode cX7_set 43 = .ok (.invokevirtual 278, 3) := by decide +kernel
theorem dX7_set_46 : decode cX7_set 46 = .ok (.iload_n 3, 1) := by decide +kernel
theorem dX7_set_47 : decode cX7_set 47 = .ok (.ireturn, 1) := by decide +kernel
theorem dX7_counts_0 : decode cX7_counts 0 = .ok (.aload_n 0, 1) := by decide +kernel
theorem dX7_counts_1 : decode cX7_counts 1 = .ok (.getfield 10, 3) := by decide +kernel
theorem dX7_counts_4 : decode cX7_counts 4 = .ok (.iload_n 1, 1) := by decide +kernel
theorem dX7_counts_5 : decode cX7_counts 5 = .ok (.invokevirtual 121, 3) := by decide +kernel
theorem dX7_counts_8 : decode cX7_counts 8 = .ok (.astore 5, 2) := by decide +kernel
theorem dX7_counts_10 : decode cX7_counts 10 = .ok (.aload 5, 2) := by decide +kernel
theorem dX7_counts_12 : decode cX7_counts 12 = .ok (.ifnull 40, 3) := by decide +kernel
theorem dX7_counts_15 : decode cX7_counts 15 = .ok (.iload_n 2, 1) := by decide +kernel
theorem dX7_counts_16 : decode cX7_counts 16 = .ok (.i2l, 1) := by decide +kernel
theorem dX7_counts_17 : decode cX7_counts 17 = .ok (.ldc2_w 281, 3) := by decide +kernel
theorem dX7_counts_20 : decode cX7_counts 20 = .ok (.ldc2_w 283, 3) := by decide +kernel
theorem dX7_counts_23 : decode cX7_counts 23 = .ok (.invokestatic 70, 3) := by decide +kernel
theorem dX7_counts_26 : decode cX7_counts 26 = .ok (.ifCond .eq 26, 3) := by decide +kernel
theorem dX7_counts_29 : decode cX7_counts 29 = .ok (.iload_n 3, 1) := by decide +kernel
theorem dX7_counts_30 : decode cX7_counts 30 = .ok (.i2l, 1) := by decide +kernel
theorem dX7_counts_31 : decode cX7_counts 31 = .ok (.lconst 0, 1) := by decide +kernel
theorem dX7_counts_32 : decode cX7_counts 32 = .ok (.lconst 1, 1) := by decide +kernel
theorem dX7_counts_33 : decode cX7_counts 33 = .ok (.invokestatic 70, 3) := by decide +kernel
theorem dX7_counts_36 : decode cX7_counts 36 = .ok (.ifCond .eq 16, 3) := by decide +kernel
theorem dX7_counts_39 : decode cX7_counts 39 = .ok (.iload 4, 2) := by decide +kernel
theorem dX7_counts_41 : decode cX7_counts 41 = .ok (.i2l, 1) := by decide +kernel
theorem dX7_counts_42 : decode cX7_counts 42 = .ok (.lconst 0, 1) := by decide +kernel
theorem dX7_counts_43 : decode cX7_counts 43 = .ok (.ldc2_w 110, 3) := by decide +kernel
theorem dX7_counts_46 : decode cX7_counts 46 = .ok (.invokestatic 70, 3) := by decide +kernel
theorem dX7_counts_49 : decode cX7_counts 49 = .ok (.ifCond .ne 6, 3) := by decide +kernel
theorem dX7_counts_52 : decode cX7_counts 52 = .ok (.ldc 74, 2) := by decide +kernel
theorem dX7_counts_54 : decode cX7_counts 54 = .ok (.ireturn, 1) := by decide +kernel
theorem dX7_counts_55 : decode cX7_counts 55 = .ok (.iload_n 3, 1) := by decide +kernel
theorem dX7_counts_56 : decode cX7_counts 56 = .ok (.iconst 1, 1) := by decide +kernel
theorem dX7_counts_57 : decode cX7_counts 57 = .ok (.if_icmp .ne 14, 3) := by decide +kernel
theorem dX7_counts_60 : decode cX7_counts 60 = .ok (.aload 5, 2) := by decide +kernel
theorem dX7_counts_62 : decode cX7_counts 62 = .ok (.invokevirtual 285, 3) := by decide +kernel
theorem dX7_counts_65 : decode cX7_counts 65 = .ok (.ifCond .ne 6, 3) := by decide +kernel
theorem dX7_counts_68 : decode cX7_counts 68 = .ok (.ldc 92, 2) := by decide +kernel
theorem dX7_counts_70 : decode cX7_counts 70 = .ok (.ireturn, 1) := by decide +kernel
theorem dX7_counts_71 : decode cX7_counts 71 = .ok (.aload_n 0, 1) := by decide +kernel
theorem dX7_counts_72 : decode cX7_counts 72 = .ok (.getfield 36, 3) := by decide +kernel
theorem dX7_counts_75 : decode cX7_counts 75 = .ok (.aload_n 0, 1) := by decide +kernel
theorem dX7_counts_76 : decode cX7_counts 76 = .ok (.getfield 10, 3) := by decide +kernel
theorem dX7_counts_79 : decode cX7_counts 79 = .ok (.aload 5, 2) := by decide +kernel
theorem dX7_counts_81 : decode cX7_counts 81 = .ok (.iload_n 2, 1) := by decide +kernel
theorem dX7_counts_82 : decode cX7_counts 82 = .ok (.invokevirtual 288, 3) := by decide +kernel
theorem dX7_counts_85 : decode cX7_counts 85 = .ok (.iload_n 3, 1) := by decide +kernel
theorem dX7_counts_86 : decode cX7_counts 86 = .ok (.ifCond .ne 13, 3) := by decide +kernel
theorem dX7_counts_89 : decode cX7_counts 89 = .ok (.aload_n 0, 1) := by decide +kernel
theorem dX7_counts_90 : decode cX7_counts 90 = .ok (.getfield 36, 3) := by decide +kernel
theorem dX7_counts_93 : decode cX7_counts 93 = .ok (.getfield 292, 3) := by decide +kernel
theorem dX7_counts_96 : decode cX7_counts 96 = .ok (.goto 10, 3) := by decide +kernel
theorem dX7_counts_99 : decode cX7_counts 99 = .ok (.aload_n 0, 1) := by decide +kernel
theorem dX7_counts_100 : decode cX7_counts 100 = .ok (.getfield 36, 3) := by decide +kernel
theorem dX7_counts_103 : decode cX7_counts 103 = .ok (.getfield 295, 3) := by decide +kernel
theorem dX7_counts_106 : decode cX7_counts 106 = .ok (.lstore 6, 2) := by decide +kernel
theorem dX7_counts_108 : decode cX7_counts 108 = .ok (.iload_n 3, 1) := by decide +kernel
theorem dX7_counts_109 : decode cX7_counts 109 = .ok (.ifCond .ne 13, 3) := by decide +kernel
theorem dX7_counts_112 : decode cX7_counts 112 = .ok (.aload_n 0, 1) := by decide +kernel
theorem dX7_counts_113 : decode cX7_counts 113 = .ok (.getfield 36, 3) := by decide +kernel
theorem dX7_counts_116 : decode cX7_counts 116 = .ok (.getfield 298, 3) := by decide +kernel
theorem dX7_counts_119 : decode cX7_counts 119 = .ok (.goto 10, 3) := by decide +kernel
theorem dX7_counts_122 : decode cX7_counts 122 = .ok (.aload_n 0, 1) := by decide +kernel
theorem dX7_counts_123 : decode cX7_counts 123 = .ok (.getfield 36, 3) := by decide +kernel
theorem dX7_counts_126 : decode cX7_counts 126 = .ok (.getfield 301, 3) := by decide +kernel
theorem dX7_counts_129 : decode cX7_counts 129 = .ok (.lstore 8, 2) := by decide +kernel
theorem dX7_counts_131 : decode cX7_counts 131 = .ok (.iload 4, 2) := by decide +kernel
theorem dX7_counts_133 : decode cX7_counts 133 = .ok (.iconst 2, 1) := by decide +kernel
theorem dX7_counts_134 : decode cX7_counts 134 = .ok (.if_icmp .ne 14, 3) := by decide +kernel
theorem dX7_counts_137 : decode cX7_counts 137 = .ok (.lload 6, 2) := by decide +kernel
theorem dX7_counts_139 : decode cX7_counts 139 = .ok (.lload 8, 2) := by decide +kernel
theorem dX7_counts_141 : decode cX7_counts 141 = .ok (.lsub, 1) := by decide +kernel
theorem dX7_counts_142 : decode cX7_counts 142 = .ok (.ldc2_w 110, 3) := by decide +kernel
theorem dX7_counts_145 : decode cX7_counts 145 = .ok (.ldiv, 1) := by decide +kernel
theorem dX7_counts_146 : decode cX7_counts 146 = .ok (.l2i, 1) := by decide +kernel
theorem dX7_counts_147 : decode cX7_counts 147 = .ok (.ireturn, 1) := by decide +kernel
theorem dX7_counts_148 : decode cX7_counts 148 = .ok (.iload 4, 2) := by decide +kernel
theorem dX7_counts_150 : decode cX7_counts 150 = .ok (.ifCond .ne 8, 3) := by decide +kernel
theorem dX7_counts_153 : decode cX7_counts 153 = .ok (.lload 6, 2) := by decide +kernel
theorem dX7_counts_155 : decode cX7_counts 155 = .ok (.goto 5, 3) := by decide +kernel
theorem dX7_counts_158 : decode cX7_counts 158 = .ok (.lload 8, 2) := by decide +kernel
theorem dX7_counts_160 : decode cX7_counts 160 = .ok (.l2i, 1) := by decide +kernel
theorem dX7_counts_161 : decode cX7_counts 161 = .ok (.ireturn, 1) := by decide +kernel
theorem dX7_ohms_0 : decode cX7_ohms 0 = .ok (.aload_n 0, 1) := by decide +kernel
theorem dX7_ohms_1 : decode cX7_ohms 1 = .ok (.getfield 10, 3) := by decide +kernel
theorem dX7_ohms_4 : decode cX7_ohms 4 = .ok (.iload_n 1, 1) := by decide +kernel
theorem dX7_ohms_5 : decode cX7_ohms 5 = .ok (.invokevirtual 121, 3) := by decide +kernel
theorem dX7_ohms_8 : decode cX7_ohms 8 = .ok (.astore_n 3, 1) := by decide +kernel
theorem dX7_ohms_9 : decode cX7_ohms 9 = .ok (.aload_n 3, 1) := by decide +kernel
theorem dX7_ohms_10 : decode cX7_ohms 10 = .ok (.ifnull 15, 3) := by decide +kernel
theorem dX7_ohms_13 : decode cX7_ohms 13 = .ok (.iload_n 2, 1) := by decide +kernel
theorem dX7_ohms_14 : decode cX7_ohms 14 = .ok (.i2l, 1) := by decide +kernel
theorem dX7_ohms_15 : decode cX7_ohms 15 = .ok (.lconst 0, 1) := by decide +kernel
theorem dX7_ohms_16 : decode cX7_ohms 16 = .ok (.ldc2_w 243, 3) := by decide +kernel
theorem dX7_ohms_19 : decode cX7_ohms 19 = .ok (.invokestatic 70, 3) := by decide +kernel
theorem dX7_ohms_22 : decode cX7_ohms 22 = .ok (.ifCond .ne 6, 3) := by decide +kernel
theorem dX7_ohms_25 : decode cX7_ohms 25 = .ok (.ldc 74, 2) := by decide +kernel
theorem dX7_ohms_27 : decode cX7_ohms 27 = .ok (.ireturn, 1) := by decide +kernel
theorem dX7_ohms_28 : decode cX7_ohms 28 = .ok (.aload_n 0, 1) := by decide +kernel
theorem dX7_ohms_29 : decode cX7_ohms 29 = .ok (.getfield 29, 3) := by decide +kernel
theorem dX7_ohms_32 : decode cX7_ohms 32 = .ok (.aload_n 0, 1) := by decide +kernel
theorem dX7_ohms_33 : decode cX7_ohms 33 = .ok (.getfield 10, 3) := by decide +kernel
theorem dX7_ohms_36 : decode cX7_ohms 36 = .ok (.aload_n 3, 1) := by decide +kernel
theorem dX7_ohms_37 : decode cX7_ohms 37 = .ok (.invokevirtual 214, 3) := by decide +kernel
theorem dX7_ohms_40 : decode cX7_ohms 40 = .ok (.iload_n 2, 1) := by decide +kernel
theorem dX7_ohms_41 : decode cX7_ohms 41 = .ok (.tableswitch 105 0 4 #[35, 47, 69, 81, 93], 35) := by decide +kernel
theorem dX7_ohms_76 : decode cX7_ohms 76 = .ok (.aload_n 0, 1) := by decide +kernel
theorem dX7_ohms_77 : decode cX7_ohms 77 = .ok (.getfield 29, 3) := by decide +kernel
theorem dX7_ohms_80 : decode cX7_ohms 80 = .ok (.getfield 304, 3) := by decide +kernel
theorem dX7_ohms_83 : decode cX7_ohms 83 = .ok (.getfield 307, 3) := by decide +kernel
theorem dX7_ohms_86 : decode cX7_ohms 86 = .ok (.l2i, 1) := by decide +kernel
theorem dX7_ohms_87 : decode cX7_ohms 87 = .ok (.ireturn, 1) := by decide +kernel
theorem dX7_ohms_88 : decode cX7_ohms 88 = .ok (.aload_n 0, 1) := by decide +kernel
theorem dX7_ohms_89 : decode cX7_ohms 89 = .ok (.getfield 29, 3) := by decide +kernel
theorem dX7_ohms_92 : decode cX7_ohms 92 = .ok (.getfield 304, 3) := by decide +kernel
theorem dX7_ohms_95 : decode cX7_ohms 95 = .ok (.aload_n 0, 1) := by decide +kernel
theorem dX7_ohms_96 : decode cX7_ohms 96 = .ok (.getfield 29, 3) := by decide +kernel
theorem dX7_ohms_99 : decode cX7_ohms 99 = .ok (.getfield 304, 3) := by decide +kernel
theorem dX7_ohms_102 : decode cX7_ohms 102 = .ok (.getfield 292, 3) := by decide +kernel
theorem dX7_ohms_105 : decode cX7_ohms 105 = .ok (.invokevirtual 310, 3) := by decide +kernel
theorem dX7_ohms_108 : decode cX7_ohms 108 = .ok (.l2i, 1) := by decide +kernel
theorem dX7_ohms_109 : decode cX7_ohms 109 = .ok (.ireturn, 1) := by decide +kernel
theorem dX7_ohms_110 : decode cX7_ohms 110 = .ok (.aload_n 0, 1) := by decide +kernel
theorem dX7_ohms_111 : decode cX7_ohms 111 = .ok (.getfield 29, 3) := by decide +kernel
theorem dX7_ohms_114 : decode cX7_ohms 114 = .ok (.getfield 304, 3) := by decide +kernel
theorem dX7_ohms_117 : decode cX7_ohms 117 = .ok (.getfield 314, 3) := by decide +kernel
theorem dX7_ohms_120 : decode cX7_ohms 120 = .ok (.l2i, 1) := by decide +kernel
theorem dX7_ohms_121 : decode cX7_ohms 121 = .ok (.ireturn, 1) := by decide +kernel
theorem dX7_ohms_122 : decode cX7_ohms 122 = .ok (.aload_n 0, 1) := by decide +kernel
theorem dX7_ohms_123 : decode cX7_ohms 123 = .ok (.getfield 29, 3) := by decide +kernel
theorem dX7_ohms_126 : decode cX7_ohms 126 = .ok (.getfield 304, 3) := by decide +kernel
theorem dX7_ohms_129 : decode cX7_ohms 129 = .ok (.getfield 317, 3) := by decide +kernel
theorem dX7_ohms_132 : decode cX7_ohms 132 = .ok (.l2i, 1) := by decide +kernel
theorem dX7_ohms_133 : decode cX7_ohms 133 = .ok (.ireturn, 1) := by decide +kernel
theorem dX7_ohms_134 : decode cX7_ohms 134 = .ok (.aload_n 0, 1) := by decide +kernel
theorem dX7_ohms_135 : decode cX7_ohms 135 = .ok (.getfield 29, 3) := by decide +kernel
theorem dX7_ohms_138 : decode cX7_ohms 138 = .ok (.getfield 320, 3) := by decide +kernel
theorem dX7_ohms_141 : decode cX7_ohms 141 = .ok (.getfield 317, 3) := by decide +kernel
theorem dX7_ohms_144 : decode cX7_ohms 144 = .ok (.l2i, 1) := by decide +kernel
theorem dX7_ohms_145 : decode cX7_ohms 145 = .ok (.ireturn, 1) := by decide +kernel
theorem dX7_ohms_146 : decode cX7_ohms 146 = .ok (.aload_n 0, 1) := by decide +kernel
theorem dX7_ohms_147 : decode cX7_ohms 147 = .ok (.getfield 29, 3) := by decide +kernel
theorem dX7_ohms_150 : decode cX7_ohms 150 = .ok (.getfield 221, 3) := by decide +kernel
theorem dX7_ohms_153 : decode cX7_ohms 153 = .ok (.l2i, 1) := by decide +kernel
theorem dX7_ohms_154 : decode cX7_ohms 154 = .ok (.ireturn, 1) := by decide +kernel
theorem dX7_diagnosis_0 : decode cX7_diagnosis 0 = .ok (.aload_n 0, 1) := by decide +kernel
theorem dX7_diagnosis_1 : decode cX7_diagnosis 1 = .ok (.getfield 10, 3) := by decide +kernel
theorem dX7_diagnosis_4 : decode cX7_diagnosis 4 = .ok (.iload_n 1, 1) := by decide +kernel
theorem dX7_diagnosis_5 : decode cX7_diagnosis 5 = .ok (.invokevirtual 121, 3) := by decide +kernel
theorem dX7_diagnosis_8 : decode cX7_diagnosis 8 = .ok (.astore_n 2, 1) := by decide +kernel
theorem dX7_diagnosis_9 : decode cX7_diagnosis 9 = .ok (.aload_n 2, 1) := by decide +kernel
theorem dX7_diagnosis_10 : decode cX7_diagnosis 10 = .ok (.ifnonnull 6, 3) := by decide +kernel
theorem dX7_diagnosis_13 : decode cX7_diagnosis 13 = .ok (.ldc 74, 2) := by decide +kernel
theorem dX7_diagnosis_15 : decode cX7_diagnosis 15 = .ok (.ireturn, 1) := by decide +kernel
theorem dX7_diagnosis_16 : decode cX7_diagnosis 16 = .ok (.aload_n 0, 1) := by decide +kernel
theorem dX7_diagnosis_17 : decode cX7_diagnosis 17 = .ok (.getfield 29, 3) := by decide +kernel
theorem dX7_diagnosis_20 : decode cX7_diagnosis 20 = .ok (.aload_n 0, 1) := by decide +kernel
theorem dX7_diagnosis_21 : decode cX7_diagnosis 21 = .ok (.getfield 10, 3) := by decide +kernel
theorem dX7_diagnosis_24 : decode cX7_diagnosis 24 = .ok (.aload_n 2, 1) := by decide +kernel
theorem dX7_diagnosis_25 : decode cX7_diagnosis 25 = .ok (.invokevirtual 214, 3) := by decide +kernel
theorem dX7_diagnosis_28 : decode cX7_diagnosis 28 = .ok (.aload_n 0, 1) := by decide +kernel
theorem dX7_diagnosis_29 : decode cX7_diagnosis 29 = .ok (.getfield 29, 3) := by decide +kernel
theorem dX7_diagnosis_32 : decode cX7_diagnosis 32 = .ok (.getfield 218, 3) := by decide +kernel
theorem dX7_diagnosis_35 : decode cX7_diagnosis 35 = .ok (.ireturn, 1) := by decide +kernel
theorem dX7_read_0 : decode cX7_read 0 = .ok (.aload_n 0, 1) := by decide +kernel
theorem dX7_read_1 : decode cX7_read 1 = .ok (.getfield 10, 3) := by decide +kernel
theorem dX7_read_4 : decode cX7_read 4 = .ok (.iload_n 1, 1) := by decide +kernel
theorem dX7_read_5 : decode cX7_read 5 = .ok (.invokevirtual 121, 3) := by decide +kernel
theorem dX7_read_8 : decode cX7_read 8 = .ok (.astore_n 2, 1) := by decide +kernel
theorem dX7_read_9 : decode cX7_read 9 = .ok (.aload_n 2, 1) := by decide +kernel
theorem dX7_read_10 : decode cX7_read 10 = .ok (.ifnonnull 6, 3) := by decide +kernel
theorem dX7_read_13 : decode cX7_read 13 = .ok (.ldc 74, 2) := by decide +kernel
theorem dX7_read_15 : decode cX7_read 15 = .ok (.ireturn, 1) := by decide +kernel
theorem dX7_read_16 : decode cX7_read 16 = .ok (.aload_n 0, 1) := by decide +kernel
theorem dX7_read_17 : decode cX7_read 17 = .ok (.getfield 29, 3) := by decide +kernel
theorem dX7_read_20 : decode cX7_read 20 = .ok (.aload_n 0, 1) := by decide +kernel
theorem dX7_read_21 : decode cX7_read 21 = .ok (.getfield 10, 3) := by decide +kernel
theorem dX7_read_24 : decode cX7_read 24 = .ok (.aload_n 2, 1) := by decide +kernel
theorem dX7_read_25 : decode cX7_read 25 = .ok (.invokevirtual 214, 3) := by decide +kernel
theorem dX7_read_28 : decode cX7_read 28 = .ok (.aload_n 0, 1) := by decide +kernel
theorem dX7_read_29 : decode cX7_read 29 = .ok (.getfield 29, 3) := by decide +kernel
theorem dX7_read_32 : decode cX7_read 32 = .ok (.getfield 218, 3) := by decide +kernel
theorem dX7_read_35 : decode cX7_read 35 = .ok (.ifCond .eq 6, 3) := by decide +kernel
theorem dX7_read_38 : decode cX7_read 38 = .ok (.ldc 84, 2) := by decide +kernel
theorem dX7_read_40 : decode cX7_read 40 = .ok (.ireturn, 1) := by decide +kernel
theorem dX7_read_41 : decode cX7_read 41 = .ok (.aload_n 0, 1) := by decide +kernel
theorem dX7_read_42 : decode cX7_read 42 = .ok (.getfield 22, 3) := by decide +kernel
theorem dX7_read_45 : decode cX7_read 45 = .ok (.aload_n 0, 1) := by decide +kernel
theorem dX7_read_46 : decode cX7_read 46 = .ok (.getfield 10, 3) := by decide +kernel
theorem dX7_read_49 : decode cX7_read 49 = .ok (.invokevirtual 56, 3) := by decide +kernel
theorem dX7_read_52 : decode cX7_read 52 = .ok (.aload_n 2, 1) := by decide +kernel
theorem dX7_read_53 : decode cX7_read 53 = .ok (.aload_n 0, 1) := by decide +kernel
theorem dX7_read_54 : decode cX7_read 54 = .ok (.getfield 29, 3) := by decide +kernel
theorem dX7_read_57 : decode cX7_read 57 = .ok (.getfield 323, 3) := by decide +kernel
theorem dX7_read_60 : decode cX7_read 60 = .ok (.invokevirtual 326, 3) := by decide +kernel
theorem dX7_read_63 : decode cX7_read 63 = .ok (.aload_n 0, 1) := by decide +kernel
theorem dX7_read_64 : decode cX7_read 64 = .ok (.getfield 29, 3) := by decide +kernel
theorem dX7_read_67 : decode cX7_read 67 = .ok (.getfield 323, 3) := by decide +kernel
theorem dX7_read_70 : decode cX7_read 70 = .ok (.ireturn, 1) := by decide +kernel
theorem dX7_scan_0 : decode cX7_scan 0 = .ok (.aload_n 0, 1) := by decide +kernel
theorem dX7_scan_1 : decode cX7_scan 1 = .ok (.getfield 10, 3) := by decide +kernel
theorem dX7_scan_4 : decode cX7_scan 4 = .ok (.invokevirtual 329, 3) := by decide +kernel
theorem dX7_scan_7 : decode cX7_scan 7 = .ok (.istore_n 1, 1) := by decide +kernel
theorem dX7_scan_8 : decode cX7_scan 8 = .ok (.aload_n 0, 1) := by decide +kernel
theorem dX7_scan_9 : decode cX7_scan 9 = .ok (.getfield 10, 3) := by decide +kernel
theorem dX7_scan_12 : decode cX7_scan 12 = .ok (.iload_n 1, 1) := by decide +kernel
theorem dX7_scan_13 : decode cX7_scan 13 = .ok (.invokevirtual 121, 3) := by decide +kernel
theorem dX7_scan_16 : decode cX7_scan 16 = .ok (.astore_n 2, 1) := by decide +kernel
theorem dX7_scan_17 : decode cX7_scan 17 = .ok (.aload_n 2, 1) := by decide +kernel
theorem dX7_scan_18 : decode cX7_scan 18 = .ok (.ifnonnull 6, 3) := by decide +kernel
theorem dX7_scan_21 : decode cX7_scan 21 = .ok (.ldc 84, 2) := by decide +kernel
theorem dX7_scan_23 : decode cX7_scan 23 = .ok (.ireturn, 1) := by decide +kernel
theorem dX7_scan_24 : decode cX7_scan 24 = .ok (.aload_n 0, 1) := by decide +kernel
theorem dX7_scan_25 : decode cX7_scan 25 = .ok (.getfield 22, 3) := by decide +kernel
theorem dX7_scan_28 : decode cX7_scan 28 = .ok (.aload_n 0, 1) := by decide +kernel
theorem dX7_scan_29 : decode cX7_scan 29 = .ok (.getfield 10, 3) := by decide +kernel
theorem dX7_scan_32 : decode cX7_scan 32 = .ok (.invokevirtual 56, 3) := by decide +kernel
theorem dX7_scan_35 : decode cX7_scan 35 = .ok (.aload_n 0, 1) := by decide +kernel
theorem dX7_scan_36 : decode cX7_scan 36 = .ok (.getfield 10, 3) := by decide +kernel
theorem dX7_scan_39 : decode cX7_scan 39 = .ok (.aload_n 2, 1) := by decide +kernel
theorem dX7_scan_40 : decode cX7_scan 40 = .ok (.getfield 147, 3) := by decide +kernel
theorem dX7_scan_43 : decode cX7_scan 43 = .ok (.putfield 333, 3) := by decide +kernel
theorem dX7_scan_46 : decode cX7_scan 46 = .ok (.aload_n 0, 1) := by decide +kernel
theorem dX7_scan_47 : decode cX7_scan 47 = .ok (.getfield 29, 3) := by decide +kernel
theorem dX7_scan_50 : decode cX7_scan 50 = .ok (.aload_n 0, 1) := by decide +kernel
theorem dX7_scan_51 : decode cX7_scan 51 = .ok (.getfield 10, 3) := by decide +kernel
theorem dX7_scan_54 : decode cX7_scan 54 = .ok (.aload_n 2, 1) := by decide +kernel
theorem dX7_scan_55 : decode cX7_scan 55 = .ok (.invokevirtual 214, 3) := by decide +kernel
theorem dX7_scan_58 : decode cX7_scan 58 = .ok (.aload_n 0, 1) := by decide +kernel
theorem dX7_scan_59 : decode cX7_scan 59 = .ok (.getfield 29, 3) := by decide +kernel
theorem dX7_scan_62 : decode cX7_scan 62 = .ok (.getfield 218, 3) := by decide +kernel
theorem dX7_scan_65 : decode cX7_scan 65 = .ok (.ifCond .eq 7, 3) := by decide +kernel
theorem dX7_scan_68 : decode cX7_scan 68 = .ok (.iconst (-1), 1) := by decide +kernel
theorem dX7_scan_69 : decode cX7_scan 69 = .ok (.iload_n 1, 1) := by decide +kernel
theorem dX7_scan_70 : decode cX7_scan 70 = .ok (.isub, 1) := by decide +kernel
theorem dX7_scan_71 : decode cX7_scan 71 = .ok (.ireturn, 1) := by decide +kernel
theorem dX7_scan_72 : decode cX7_scan 72 = .ok (.aload_n 2, 1) := by decide +kernel
theorem dX7_scan_73 : decode cX7_scan 73 = .ok (.aload_n 0, 1) := by decide +kernel
theorem dX7_scan_74 : decode cX7_scan 74 = .ok (.getfield 29, 3) := by decide +kernel
theorem dX7_scan_77 : decode cX7_scan 77 = .ok (.getfield 323, 3) := by decide +kernel
theorem dX7_scan_80 : decode cX7_scan 80 = .ok (.invokevirtual 326, 3) := by decide +kernel
theorem dX7_scan_83 : decode cX7_scan 83 = .ok (.iload_n 1, 1) := by decide +kernel
theorem dX7_scan_84 : decode cX7_scan 84 = .ok (.ireturn, 1) := by decide +kernel
theorem dX7_readingAt_0 : decode cX7_readingAt 0 = .ok (.aload_n 0, 1) := by decide +kernel
theorem dX7_readingAt_1 : decode cX7_readingAt 1 = .ok (.getfield 10, 3) := by decide +kernel
theorem dX7_readingAt_4 : decode cX7_readingAt 4 = .ok (.iload_n 1, 1) := by decide +kernel
theorem dX7_readingAt_5 : decode cX7_readingAt 5 = .ok (.invokevirtual 121, 3) := by decide +kernel
theorem dX7_readingAt_8 : decode cX7_readingAt 8 = .ok (.astore_n 3, 1) := by decide +kernel
theorem dX7_readingAt_9 : decode cX7_readingAt 9 = .ok (.aload_n 3, 1) := by decide +kernel
theorem dX7_readingAt_10 : decode cX7_readingAt 10 = .ok (.ifnull 7, 3) := by decide +kernel
theorem dX7_readingAt_13 : decode cX7_readingAt 13 = .ok (.iload_n 2, 1) := by decide +kernel
theorem dX7_readingAt_14 : decode cX7_readingAt 14 = .ok (.ifCond .ge 6, 3) := by decide +kernel
theorem dX7_readingAt_17 : decode cX7_readingAt 17 = .ok (.ldc 74, 2) := by decide +kernel
theorem dX7_readingAt_19 : decode cX7_readingAt 19 = .ok (.ireturn, 1) := by decide +kernel
theorem dX7_readingAt_20 : decode cX7_readingAt 20 = .ok (.iload_n 2, 1) := by decide +kernel
theorem dX7_readingAt_21 : decode cX7_readingAt 21 = .ok (.aload_n 3, 1) := by decide +kernel
theorem dX7_readingAt_22 : decode cX7_readingAt 22 = .ok (.invokevirtual 336, 3) := by decide +kernel
theorem dX7_readingAt_25 : decode cX7_readingAt 25 = .ok (.if_icmp .ge 11, 3) := by decide +kernel
theorem dX7_readingAt_28 : decode cX7_readingAt 28 = .ok (.aload_n 3, 1) := by decide +kernel
theorem dX7_readingAt_29 : decode cX7_readingAt 29 = .ok (.iload_n 2, 1) := by decide +kernel
theorem dX7_readingAt_30 : decode cX7_readingAt 30 = .ok (.invokevirtual 339, 3) := by decide +kernel
theorem dX7_readingAt_33 : decode cX7_readingAt 33 = .ok (.goto 5, 3) := by decide +kernel
theorem dX7_readingAt_36 : decode cX7_readingAt 36 = .ok (.ldc 92, 2) := by decide +kernel
theorem dX7_readingAt_38 : decode cX7_readingAt 38 = .ok (.ireturn, 1) := by decide +kernel
theorem dX7_median_0 : decode cX7_median 0 = .ok (.aload_n 0, 1) := by decide +kernel
theorem dX7_median_1 : decode cX7_median 1 = .ok (.getfield 10, 3) := by decide +kernel
theorem dX7_median_4 : decode cX7_median 4 = .ok (.iload_n 1, 1) := by decide +kernel
theorem dX7_median_5 : decode cX7_median 5 = .ok (.invokevirtual 121, 3) := by decide +kernel
theorem dX7_median_8 : decode cX7_median 8 = .ok (.astore_n 2, 1) := by decide +kernel
theorem dX7_median_9 : decode cX7_median 9 = .ok (.aload_n 2, 1) := by decide +kernel
theorem dX7_median_10 : decode cX7_median 10 = .ok (.ifnonnull 6, 3) := by decide +kernel
theorem dX7_median_13 : decode cX7_median 13 = .ok (.ldc 74, 2) := by decide +kernel
theorem dX7_median_15 : decode cX7_median 15 = .ok (.ireturn, 1) := by decide +kernel
theorem dX7_median_16 : decode cX7_median 16 = .ok (.aload_n 0, 1) := by decide +kernel
theorem dX7_median_17 : decode cX7_median 17 = .ok (.getfield 10, 3) := by decide +kernel
theorem dX7_median_20 : decode cX7_median 20 = .ok (.bipush 6, 2) := by decide +kernel
theorem dX7_median_22 : decode cX7_median 22 = .ok (.invokevirtual 275, 3) := by decide +kernel
theorem dX7_median_25 : decode cX7_median 25 = .ok (.aload_n 2, 1) := by decide +kernel
theorem dX7_median_26 : decode cX7_median 26 = .ok (.invokevirtual 336, 3) := by decide +kernel
theorem dX7_median_29 : decode cX7_median 29 = .ok (.invokestatic 341, 3) := by decide +kernel
theorem dX7_median_32 : decode cX7_median 32 = .ok (.istore_n 3, 1) := by decide +kernel
theorem dX7_median_33 : decode cX7_median 33 = .ok (.iload_n 3, 1) := by decide +kernel
theorem dX7_median_34 : decode cX7_median 34 = .ok (.ifCond .ne 6, 3) := by decide +kernel
theorem dX7_median_37 : decode cX7_median 37 = .ok (.ldc 92, 2) := by decide +kernel
theorem dX7_median_39 : decode cX7_median 39 = .ok (.ireturn, 1) := by decide +kernel
theorem dX7_median_40 : decode cX7_median 40 = .ok (.iconst 0, 1) := by decide +kernel
theorem dX7_median_41 : decode cX7_median 41 = .ok (.istore 4, 2) := by decide +kernel
theorem dX7_median_43 : decode cX7_median 43 = .ok (.iload 4, 2) := by decide +kernel
theorem dX7_median_45 : decode cX7_median 45 = .ok (.iload_n 3, 1) := by decide +kernel
theorem dX7_median_46 : decode cX7_median 46 = .ok (.if_icmp .ge 31, 3) := by decide +kernel
theorem dX7_median_49 : decode cX7_median 49 = .ok (.iload 4, 2) := by decide +kernel
theorem dX7_median_51 : decode cX7_median 51 = .ok (.aload_n 0, 1) := by decide +kernel
theorem dX7_median_52 : decode cX7_median 52 = .ok (.getfield 47, 3) := by decide +kernel
theorem dX7_median_55 : decode cX7_median 55 = .ok (.arraylength, 1) := by decide +kernel
theorem dX7_median_56 : decode cX7_median 56 = .ok (.if_icmp .ge 21, 3) := by decide +kernel
theorem dX7_median_59 : decode cX7_median 59 = .ok (.aload_n 0, 1) := by decide +kernel
theorem dX7_median_60 : decode cX7_median 60 = .ok (.aload_n 2, 1) := by decide +kernel
theorem dX7_median_61 : decode cX7_median 61 = .ok (.iload 4, 2) := by decide +kernel
theorem dX7_median_63 : decode cX7_median 63 = .ok (.invokevirtual 339, 3) := by decide +kernel
theorem dX7_median_66 : decode cX7_median 66 = .ok (.iload 4, 2) := by decide +kernel
theorem dX7_median_68 : decode cX7_median 68 = .ok (.invokevirtual 347, 3) := by decide +kernel
theorem dX7_median_71 : decode cX7_median 71 = .ok (.iinc 4 1, 3) := by decide +kernel
theorem dX7_median_74 : decode cX7_median 74 = .ok (.goto (-31), 3) := by decide +kernel
theorem dX7_median_77 : decode cX7_median 77 = .ok (.iload_n 3, 1) := by decide +kernel
theorem dX7_median_78 : decode cX7_median 78 = .ok (.iconst 1, 1) := by decide +kernel
theorem dX7_median_79 : decode cX7_median 79 = .ok (.isub, 1) := by decide +kernel
theorem dX7_median_80 : decode cX7_median 80 = .ok (.iconst 2, 1) := by decide +kernel
theorem dX7_median_81 : decode cX7_median 81 = .ok (.idiv, 1) := by decide +kernel
theorem dX7_median_82 : decode cX7_median 82 = .ok (.istore 4, 2) := by decide +kernel
theorem dX7_median_84 : decode cX7_median 84 = .ok (.iload 4, 2) := by decide +kernel
theorem dX7_median_86 : decode cX7_median 86 = .ok (.ifCond .lt 23, 3) := by decide +kernel
theorem dX7_median_89 : decode cX7_median 89 = .ok (.iload 4, 2) := by decide +kernel
theorem dX7_median_91 : decode cX7_median 91 = .ok (.aload_n 0, 1) := by decide +kernel
theorem dX7_median_92 : decode cX7_median 92 = .ok (.getfield 47, 3) := by decide +kernel
theorem dX7_median_95 : decode cX7_median 95 = .ok (.arraylength, 1) := by decide +kernel
theorem dX7_median_96 : decode cX7_median 96 = .ok (.if_icmp .ge 13, 3) := by decide +kernel
theorem dX7_median_99 : decode cX7_median 99 = .ok (.aload_n 0, 1) := by decide +kernel
theorem dX7_median_100 : decode cX7_median 100 = .ok (.getfield 47, 3) := by decide +kernel
theorem dX7_median_103 : decode cX7_median 103 = .ok (.iload 4, 2) := by decide +kernel
theorem dX7_median_105 : decode cX7_median 105 = .ok (.iaload, 1) := by decide +kernel
theorem dX7_median_106 : decode cX7_median 106 = .ok (.goto 5, 3) := by decide +kernel
theorem dX7_median_109 : decode cX7_median 109 = .ok (.ldc 92, 2) := by decide +kernel
theorem dX7_median_111 : decode cX7_median 111 = .ok (.ireturn, 1) := by decide +kernel
theorem dX7_meanBits_0 : decode cX7_meanBits 0 = .ok (.aload_n 0, 1) := by decide +kernel
theorem dX7_meanBits_1 : decode cX7_meanBits 1 = .ok (.getfield 10, 3) := by decide +kernel
theorem dX7_meanBits_4 : decode cX7_meanBits 4 = .ok (.iload_n 1, 1) := by decide +kernel
theorem dX7_meanBits_5 : decode cX7_meanBits 5 = .ok (.invokevirtual 121, 3) := by decide +kernel
theorem dX7_meanBits_8 : decode cX7_meanBits 8 = .ok (.astore_n 2, 1) := by decide +kernel
theorem dX7_meanBits_9 : decode cX7_meanBits 9 = .ok (.aload_n 2, 1) := by decide +kernel
theorem dX7_meanBits_10 : decode cX7_meanBits 10 = .ok (.ifnonnull 6, 3) := by decide +kernel
theorem dX7_meanBits_13 : decode cX7_meanBits 13 = .ok (.ldc 74, 2) := by decide +kernel
theorem dX7_meanBits_15 : decode cX7_meanBits 15 = .ok (.ireturn, 1) := by decide +kernel
theorem dX7_meanBits_16 : decode cX7_meanBits 16 = .ok (.aload_n 2, 1) := by decide +kernel
theorem dX7_meanBits_17 : decode cX7_meanBits 17 = .ok (.invokevirtual 336, 3) := by decide +kernel
theorem dX7_meanBits_20 : decode cX7_meanBits 20 = .ok (.istore_n 3, 1) := by decide +kernel
theorem dX7_meanBits_21 : decode cX7_meanBits 21 = .ok (.iload_n 3, 1) := by decide +kernel
theorem dX7_meanBits_22 : decode cX7_meanBits 22 = .ok (.ifCond .ne 6, 3) := by decide +kernel
theorem dX7_meanBits_25 : decode cX7_meanBits 25 = .ok (.ldc 92, 2) := by decide +kernel
theorem dX7_meanBits_27 : decode cX7_meanBits 27 = .ok (.ireturn, 1) := by decide +kernel
theorem dX7_meanBits_28 : decode cX7_meanBits 28 = .ok (.lconst 0, 1) := by decide +kernel
theorem dX7_meanBits_29 : decode cX7_meanBits 29 = .ok (.lstore 4, 2) := by decide +kernel
theorem dX7_meanBits_31 : decode cX7_meanBits 31 = .ok (.iconst 0, 1) := by decide +kernel
theorem dX7_meanBits_32 : decode cX7_meanBits 32 = .ok (.istore 6, 2) := by decide +kernel
theorem dX7_meanBits_34 : decode cX7_meanBits 34 = .ok (.iload 6, 2) := by decide +kernel
theorem dX7_meanBits_36 : decode cX7_meanBits 36 = .ok (.iload_n 3, 1) := by decide +kernel
theorem dX7_meanBits_37 : decode cX7_meanBits 37 = .ok (.if_icmp .ge 21, 3) := by decide +kernel
theorem dX7_meanBits_40 : decode cX7_meanBits 40 = .ok (.lload 4, 2) := by decide +kernel
theorem dX7_meanBits_42 : decode cX7_meanBits 42 = .ok (.aload_n 2, 1) := by decide +kernel
theorem dX7_meanBits_43 : decode cX7_meanBits 43 = .ok (.iload 6, 2) := by decide +kernel
theorem dX7_meanBits_45 : decode cX7_meanBits 45 = .ok (.invokevirtual 339, 3) := by decide +kernel
theorem dX7_meanBits_48 : decode cX7_meanBits 48 = .ok (.i2l, 1) := by decide +kernel
theorem dX7_meanBits_49 : decode cX7_meanBits 49 = .ok (.ladd, 1) := by decide +kernel
theorem dX7_meanBits_50 : decode cX7_meanBits 50 = .ok (.lstore 4, 2) := by decide +kernel
theorem dX7_meanBits_52 : decode cX7_meanBits 52 = .ok (.iinc 6 1, 3) := by decide +kernel
theorem dX7_meanBits_55 : decode cX7_meanBits 55 = .ok (.goto (-21), 3) := by decide +kernel
theorem dX7_meanBits_58 : decode cX7_meanBits 58 = .ok (.lload 4, 2) := by decide +kernel
theorem dX7_meanBits_60 : decode cX7_meanBits 60 = .ok (.l2d, 1) := by decide +kernel
theorem dX7_meanBits_61 : decode cX7_meanBits 61 = .ok (.iload_n 3, 1) := by decide +kernel
theorem dX7_meanBits_62 : decode cX7_meanBits 62 = .ok (.i2d, 1) := by decide +kernel
theorem dX7_meanBits_63 : decode cX7_meanBits 63 = .ok (.ddiv, 1) := by decide +kernel
theorem dX7_meanBits_64 : decode cX7_meanBits 64 = .ok (.ldc2_w 350, 3) := by decide +kernel
theorem dX7_meanBits_67 : decode cX7_meanBits 67 = .ok (.ddiv, 1) := by decide +kernel
theorem dX7_meanBits_68 : decode cX7_meanBits 68 = .ok (.d2f, 1) := by decide +kernel
theorem dX7_meanBits_69 : decode cX7_meanBits 69 = .ok (.invokestatic 352, 3) := by decide +kernel
theorem dX7_meanBits_72 : decode cX7_meanBits 72 = .ok (.ireturn, 1) := by decide +kernel
theorem dX7_count_0 : decode cX7_count 0 = .ok (.iload_n 1, 1) := by decide +kernel
theorem dX7_count_1 : decode cX7_count 1 = .ok (.i2l, 1) := by decide +kernel
theorem dX7_count_2 : decode cX7_count 2 = .ok (.ldc2_w 356, 3) := by decide +kernel
theorem dX7_count_5 : decode cX7_count 5 = .ok (.ldc2_w 358, 3) := by decide +kernel
theorem dX7_count_8 : decode cX7_count 8 = .ok (.invokestatic 70, 3) := by decide +kernel
theorem dX7_count_11 : decode cX7_count 11 = .ok (.ifCond .eq 15, 3) := by decide +kernel
theorem dX7_count_14 : decode cX7_count 14 = .ok (.aload_n 0, 1) := by decide +kernel
theorem dX7_count_15 : decode cX7_count 15 = .ok (.getfield 10, 3) := by decide +kernel
theorem dX7_count_18 : decode cX7_count 18 = .ok (.iload_n 1, 1) := by decide +kernel
theorem dX7_count_19 : decode cX7_count 19 = .ok (.bipush 20, 2) := by decide +kernel
theorem dX7_count_21 : decode cX7_count 21 = .ok (.isub, 1) := by decide +kernel
theorem dX7_count_22 : decode cX7_count 22 = .ok (.invokevirtual 275, 3) := by decide +kernel
theorem dX7_count_25 : decode cX7_count 25 = .ok (.ireturn, 1) := by decide +kernel
theorem dX7_count_26 : decode cX7_count 26 = .ok (.iload_n 1, 1) := by decide +kernel
theorem dX7_count_27 : decode cX7_count 27 = .ok (.i2l, 1) := by decide +kernel
theorem dX7_count_28 : decode cX7_count 28 = .ok (.ldc2_w 360, 3) := by decide +kernel
theorem dX7_count_31 : decode cX7_count 31 = .ok (.ldc2_w 362, 3) := by decide +kernel
theorem dX7_count_34 : decode cX7_count 34 = .ok (.invokestatic 70, 3) := by decide +kernel
theorem dX7_count_37 : decode cX7_count 37 = .ok (.ifCond .eq 29, 3) := by decide +kernel
theorem dX7_count_40 : decode cX7_count 40 = .ok (.aload_n 0, 1) := by decide +kernel
theorem dX7_count_41 : decode cX7_count 41 = .ok (.getfield 10, 3) := by decide +kernel
theorem dX7_count_44 : decode cX7_count 44 = .ok (.iload_n 1, 1) := by decide +kernel
theorem dX7_count_45 : decode cX7_count 45 = .ok (.bipush 10, 2) := by decide +kernel
theorem dX7_count_47 : decode cX7_count 47 = .ok (.isub, 1) := by decide +kernel
theorem dX7_count_48 : decode cX7_count 48 = .ok (.invokevirtual 60, 3) := by decide +kernel
theorem dX7_count_51 : decode cX7_count 51 = .ok (.astore_n 2, 1) := by decide +kernel
theorem dX7_count_52 : decode cX7_count 52 = .ok (.aload_n 2, 1) := by decide +kernel
theorem dX7_count_53 : decode cX7_count 53 = .ok (.ifnonnull 8, 3) := by decide +kernel
theorem dX7_count_56 : decode cX7_count 56 = .ok (.ldc 92, 2) := by decide +kernel
theorem dX7_count_58 : decode cX7_count 58 = .ok (.goto 7, 3) := by decide +kernel
theorem dX7_count_61 : decode cX7_count 61 = .ok (.aload_n 2, 1) := by decide +kernel
theorem dX7_count_62 : decode cX7_count 62 = .ok (.getfield 85, 3) := by decide +kernel
theorem dX7_count_65 : decode cX7_count 65 = .ok (.ireturn, 1) := by decide +kernel
theorem dX7_count_66 : decode cX7_count 66 = .ok (.iload_n 1, 1) := by decide +kernel
theorem dX7_count_67 : decode cX7_count 67 = .ok (.tableswitch 128 0 7 #[45, 53, 61, 69, 77, 85, 112, 120], 45) := by decide +kernel
theorem dX7_count_112 : decode cX7_count 112 = .ok (.aload_n 0, 1) := by decide +kernel
theorem dX7_count_113 : decode cX7_count 113 = .ok (.getfield 10, 3) := by decide +kernel
theorem dX7_count_116 : decode cX7_count 116 = .ok (.getfield 51, 3) := by decide +kernel
theorem dX7_count_119 : decode cX7_count 119 = .ok (.ireturn, 1) := by decide +kernel
theorem dX7_count_120 : decode cX7_count 120 = .ok (.aload_n 0, 1) := by decide +kernel
theorem dX7_count_121 : decode cX7_count 121 = .ok (.getfield 10, 3) := by decide +kernel
theorem dX7_count_124 : decode cX7_count 124 = .ok (.getfield 118, 3) := by decide +kernel
theorem dX7_count_127 : decode cX7_count 127 = .ok (.ireturn, 1) := by decide +kernel
theorem dX7_count_128 : decode cX7_count 128 = .ok (.aload_n 0, 1) := by decide +kernel
theorem dX7_count_129 : decode cX7_count 129 = .ok (.getfield 10, 3) := by decide +kernel
theorem dX7_count_132 : decode cX7_count 132 = .ok (.invokevirtual 364, 3) := by decide +kernel
theorem dX7_count_135 : decode cX7_count 135 = .ok (.ireturn, 1) := by decide +kernel
theorem dX7_count_136 : decode cX7_count 136 = .ok (.aload_n 0, 1) := by decide +kernel
theorem dX7_count_137 : decode cX7_count 137 = .ok (.getfield 10, 3) := by decide +kernel
theorem dX7_count_140 : decode cX7_count 140 = .ok (.invokevirtual 367, 3) := by decide +kernel
theorem dX7_count_143 : decode cX7_count 143 = .ok (.ireturn, 1) := by decide +kernel
theorem dX7_count_144 : decode cX7_count 144 = .ok (.aload_n 0, 1) := by decide +kernel
theorem dX7_count_145 : decode cX7_count 145 = .ok (.getfield 10, 3) := by decide +kernel
theorem dX7_count_148 : decode cX7_count 148 = .ok (.invokevirtual 370, 3) := by decide +kernel
theorem dX7_count_151 : decode cX7_count 151 = .ok (.ireturn, 1) := by decide +kernel
theorem dX7_count_152 : decode cX7_count 152 = .ok (.aload_n 0, 1) := by decide +kernel
theorem dX7_count_153 : decode cX7_count 153 = .ok (.getfield 10, 3) := by decide +kernel
theorem dX7_count_156 : decode cX7_count 156 = .ok (.getfield 333, 3) := by decide +kernel
theorem dX7_count_159 : decode cX7_count 159 = .ok (.iconst (-1), 1) := by decide +kernel
theorem dX7_count_160 : decode cX7_count 160 = .ok (.if_icmp .ne 8, 3) := by decide +kernel
theorem dX7_count_163 : decode cX7_count 163 = .ok (.ldc 92, 2) := by decide +kernel
theorem dX7_count_165 : decode cX7_count 165 = .ok (.goto 13, 3) := by decide +kernel
theorem dX7_count_168 : decode cX7_count 168 = .ok (.aload_n 0, 1) := by decide +kernel
theorem dX7_count_169 : decode cX7_count 169 = .ok (.getfield 10, 3) := by decide +kernel
theorem dX7_count_172 : decode cX7_count 172 = .ok (.getfield 333, 3) := by decide +kernel
theorem dX7_count_175 : decode cX7_count 175 = .ok (.invokestatic 153, 3) := by decide +kernel
theorem dX7_count_178 : decode cX7_count 178 = .ok (.ireturn, 1) := by decide +kernel
theorem dX7_count_179 : decode cX7_count 179 = .ok (.aload_n 0, 1) := by decide +kernel
theorem dX7_count_180 : decode cX7_count 180 = .ok (.getfield 22, 3) := by decide +kernel
theorem dX7_count_183 : decode cX7_count 183 = .ok (.getfield 373, 3) := by decide +kernel
theorem dX7_count_186 : decode cX7_count 186 = .ok (.ireturn, 1) := by decide +kernel
theorem dX7_count_187 : decode cX7_count 187 = .ok (.aload_n 0, 1) := by decide +kernel
theorem dX7_count_188 : decode cX7_count 188 = .ok (.getfield 43, 3) := by decide +kernel
theorem dX7_count_191 : decode cX7_count 191 = .ok (.getfield 376, 3) := by decide +kernel
theorem dX7_count_194 : decode cX7_count 194 = .ok (.ireturn, 1) := by decide +kernel
theorem dX7_count_195 : decode cX7_count 195 = .ok (.ldc 74, 2) := by decide +kernel
theorem dX7_count_197 : decode cX7_count 197 = .ok (.ireturn, 1) := by decide +kernel
theorem dX7_undo_0 : decode cX7_undo 0 = .ok (.aload_n 0, 1) := by decide +kernel
theorem dX7_undo_1 : decode cX7_undo 1 = .ok (.getfield 22, 3) := by decide +kernel
theorem dX7_undo_4 : decode cX7_undo 4 = .ok (.getfield 373, 3) := by decide +kernel
theorem dX7_undo_7 : decode cX7_undo 7 = .ok (.ifCond .ne 6, 3) := by decide +kernel
theorem dX7_undo_10 : decode cX7_undo 10 = .ok (.ldc 84, 2) := by decide +kernel
theorem dX7_undo_12 : decode cX7_undo 12 = .ok (.ireturn, 1) := by decide +kernel
theorem dX7_undo_13 : decode cX7_undo 13 = .ok (.aload_n 0, 1) := by decide +kernel
theorem dX7_undo_14 : decode cX7_undo 14 = .ok (.getfield 22, 3) := by decide +kernel
theorem dX7_undo_17 : decode cX7_undo 17 = .ok (.aload_n 0, 1) := by decide +kernel
theorem dX7_undo_18 : decode cX7_undo 18 = .ok (.getfield 10, 3) := by decide +kernel
theorem dX7_undo_21 : decode cX7_undo 21 = .ok (.invokevirtual 379, 3) := by decide +kernel
theorem dX7_undo_24 : decode cX7_undo 24 = .ok (.aload_n 0, 1) := by decide +kernel
theorem dX7_undo_25 : decode cX7_undo 25 = .ok (.getfield 22, 3) := by decide +kernel
theorem dX7_undo_28 : decode cX7_undo 28 = .ok (.getfield 373, 3) := by decide +kernel
theorem dX7_undo_31 : decode cX7_undo 31 = .ok (.ireturn, 1) := by decide +kernel
theorem dX7_type_0 : decode cX7_type 0 = .ok (.iload_n 1, 1) := by decide +kernel
theorem dX7_type_1 : decode cX7_type 1 = .ok (.i2l, 1) := by decide +kernel
theorem dX7_type_2 : decode cX7_type 2 = .ok (.ldc2_w 382, 3) := by decide +kernel
theorem dX7_type_5 : decode cX7_type 5 = .ok (.ldc2_w 384, 3) := by decide +kernel
theorem dX7_type_8 : decode cX7_type 8 = .ok (.invokestatic 70, 3) := by decide +kernel
theorem dX7_type_11 : decode cX7_type 11 = .ok (.ifCond .ne 6, 3) := by decide +kernel
theorem dX7_type_14 : decode cX7_type 14 = .ok (.ldc 74, 2) := by decide +kernel
theorem dX7_type_16 : decode cX7_type 16 = .ok (.ireturn, 1) := by decide +kernel
theorem dX7_type_17 : decode cX7_type 17 = .ok (.aload_n 0, 1) := by decide +kernel
theorem dX7_type_18 : decode cX7_type 18 = .ok (.getfield 43, 3) := by decide +kernel
theorem dX7_type_21 : decode cX7_type 21 = .ok (.getfield 376, 3) := by decide +kernel
theorem dX7_type_24 : decode cX7_type 24 = .ok (.bipush 60, 2) := by decide +kernel
theorem dX7_type_26 : decode cX7_type 26 = .ok (.if_icmp .lt 6, 3) := by decide +kernel
theorem dX7_type_29 : decode cX7_type 29 = .ok (.ldc 55, 2) := by decide +kernel
theorem dX7_type_31 : decode cX7_type 31 = .ok (.ireturn, 1) := by decide +kernel
theorem dX7_type_32 : decode cX7_type 32 = .ok (.aload_n 0, 1) := by decide +kernel
theorem dX7_type_33 : decode cX7_type 33 = .ok (.getfield 43, 3) := by decide +kernel
theorem dX7_type_36 : decode cX7_type 36 = .ok (.iload_n 1, 1) := by decide +kernel
theorem dX7_type_37 : decode cX7_type 37 = .ok (.i2c, 1) := by decide +kernel
theorem dX7_type_38 : decode cX7_type 38 = .ok (.invokevirtual 386, 3) := by decide +kernel
theorem dX7_type_41 : decode cX7_type 41 = .ok (.aload_n 0, 1) := by decide +kernel
theorem dX7_type_42 : decode cX7_type 42 = .ok (.getfield 43, 3) := by decide +kernel
theorem dX7_type_45 : decode cX7_type 45 = .ok (.getfield 376, 3) := by decide +kernel
theorem dX7_type_48 : decode cX7_type 48 = .ok (.ireturn, 1) := by decide +kernel
theorem dX7_clearText_0 : decode cX7_clearText 0 = .ok (.aload_n 0, 1) := by decide +kernel
theorem dX7_clearText_1 : decode cX7_clearText 1 = .ok (.getfield 43, 3) := by decide +kernel
theorem dX7_clearText_4 : decode cX7_clearText 4 = .ok (.getfield 376, 3) := by decide +kernel
theorem dX7_clearText_7 : decode cX7_clearText 7 = .ok (.istore_n 1, 1) := by decide +kernel
theorem dX7_clearText_8 : decode cX7_clearText 8 = .ok (.aload_n 0, 1) := by decide +kernel
theorem dX7_clearText_9 : decode cX7_clearText 9 = .ok (.getfield 43, 3) := by decide +kernel
theorem dX7_clearText_12 : decode cX7_clearText 12 = .ok (.iconst 0, 1) := by decide +kernel
theorem dX7_clearText_13 : decode cX7_clearText 13 = .ok (.putfield 376, 3) := by decide +kernel
theorem dX7_clearText_16 : decode cX7_clearText 16 = .ok (.iload_n 1, 1) := by decide +kernel
theorem dX7_clearText_17 : decode cX7_clearText 17 = .ok (.ireturn, 1) := by decide +kernel
theorem dX7_fault_0 : decode cX7_fault 0 = .ok (.iload_n 1, 1) := by decide +kernel
theorem dX7_fault_1 : decode cX7_fault 1 = .ok (.i2l, 1) := by decide +kernel
theorem dX7_fault_2 : decode cX7_fault 2 = .ok (.lconst 0, 1) := by decide +kernel
theorem dX7_fault_3 : decode cX7_fault 3 = .ok (.lconst 1, 1) := by decide +kernel
theorem dX7_fault_4 : decode cX7_fault 4 = .ok (.invokestatic 70, 3) := by decide +kernel
theorem dX7_fault_7 : decode cX7_fault 7 = .ok (.ifCond .ne 6, 3) := by decide +kernel
theorem dX7_fault_10 : decode cX7_fault 10 = .ok (.ldc 74, 2) := by decide +kernel
theorem dX7_fault_12 : decode cX7_fault 12 = .ok (.ireturn, 1) := by decide +kernel
theorem dX7_fault_13 : decode cX7_fault 13 = .ok (.aload_n 0, 1) := by decide +kernel
theorem dX7_fault_14 : decode cX7_fault 14 = .ok (.invokevirtual 389, 3) := by decide +kernel
theorem dX7_fault_17 : decode cX7_fault 17 = .ok (.aload_n 0, 1) := by decide +kernel
theorem dX7_fault_18 : decode cX7_fault 18 = .ok (.getfield 392, 3) := by decide +kernel
theorem dX7_fault_21 : decode cX7_fault 21 = .ok (.ifCond .ne 6, 3) := by decide +kernel
theorem dX7_fault_24 : decode cX7_fault 24 = .ok (.ldc 92, 2) := by decide +kernel
theorem dX7_fault_26 : decode cX7_fault 26 = .ok (.ireturn, 1) := by decide +kernel
theorem dX7_fault_27 : decode cX7_fault 27 = .ok (.iload_n 1, 1) := by decide +kernel
theorem dX7_fault_28 : decode cX7_fault 28 = .ok (.ifCond .ne 10, 3) := by decide +kernel
theorem dX7_fault_31 : decode cX7_fault 31 = .ok (.aload_n 0, 1) := by decide +kernel
theorem dX7_fault_32 : decode cX7_fault 32 = .ok (.getfield 395, 3) := by decide +kernel
theorem dX7_fault_35 : decode cX7_fault 35 = .ok (.goto 7, 3) := by decide +kernel
theorem dX7_fault_38 : decode cX7_fault 38 = .ok (.aload_n 0, 1) := by decide +kernel
theorem dX7_fault_39 : decode cX7_fault 39 = .ok (.getfield 392, 3) := by decide +kernel
theorem dX7_fault_42 : decode cX7_fault 42 = .ok (.ireturn, 1) := by decide +kernel
theorem dX7_play_0 : decode cX7_play 0 = .ok (.aload_n 0, 1) := by decide +kernel
theorem dX7_play_1 : decode cX7_play 1 = .ok (.invokevirtual 389, 3) := by decide +kernel
theorem dX7_play_4 : decode cX7_play 4 = .ok (.aload_n 0, 1) := by decide +kernel
theorem dX7_play_5 : decode cX7_play 5 = .ok (.getfield 392, 3) := by decide +kernel
theorem dX7_play_8 : decode cX7_play 8 = .ok (.ifCond .eq 6, 3) := by decide +kernel
theorem dX7_play_11 : decode cX7_play 11 = .ok (.ldc 84, 2) := by decide +kernel
theorem dX7_play_13 : decode cX7_play 13 = .ok (.ireturn, 1) := by decide +kernel
theorem dX7_play_14 : decode cX7_play 14 = .ok (.aload_n 0, 1) := by decide +kernel
theorem dX7_play_15 : decode cX7_play 15 = .ok (.getfield 22, 3) := by decide +kernel
theorem dX7_play_18 : decode cX7_play 18 = .ok (.aload_n 0, 1) := by decide +kernel
theorem dX7_play_19 : decode cX7_play 19 = .ok (.getfield 10, 3) := by decide +kernel
theorem dX7_play_22 : decode cX7_play 22 = .ok (.invokevirtual 56, 3) := by decide +kernel
theorem dX7_play_25 : decode cX7_play 25 = .ok (.aload_n 0, 1) := by decide +kernel
theorem dX7_play_26 : decode cX7_play 26 = .ok (.getfield 10, 3) := by decide +kernel
theorem dX7_play_29 : decode cX7_play 29 = .ok (.aload_n 0, 1) := by decide +kernel
theorem dX7_play_30 : decode cX7_play 30 = .ok (.getfield 16, 3) := by decide +kernel
theorem dX7_play_33 : decode cX7_play 33 = .ok (.invokevirtual 398, 3) := by decide +kernel
theorem dX7_play_36 : decode cX7_play 36 = .ok (.aload_n 0, 1) := by decide +kernel
theorem dX7_play_37 : decode cX7_play 37 = .ok (.getfield 401, 3) := by decide +kernel
theorem dX7_play_40 : decode cX7_play 40 = .ok (.ireturn, 1) := by decide +kernel
theorem dX7_tryOrders_0 : decode cX7_tryOrders 0 = .ok (.aload_n 0, 1) := by decide +kernel
theorem dX7_tryOrders_1 : decode cX7_tryOrders 1 = .ok (.getfield 16, 3) := by decide +kernel
theorem dX7_tryOrders_4 : decode cX7_tryOrders 4 = .ok (.aload_n 0, 1) := by decide +kernel
theorem dX7_tryOrders_5 : decode cX7_tryOrders 5 = .ok (.getfield 10, 3) := by decide +kernel
theorem dX7_tryOrders_8 : decode cX7_tryOrders 8 = .ok (.invokevirtual 398, 3) := by decide +kernel
theorem dX7_tryOrders_11 : decode cX7_tryOrders 11 = .ok (.aload_n 0, 1) := by decide +kernel
theorem dX7_tryOrders_12 : decode cX7_tryOrders 12 = .ok (.iconst 0, 1) := by decide +kernel
theorem dX7_tryOrders_13 : decode cX7_tryOrders 13 = .ok (.putfield 392, 3) := by decide +kernel
theorem dX7_tryOrders_16 : decode cX7_tryOrders 16 = .ok (.aload_n 0, 1) := by decide +kernel
theorem dX7_tryOrders_17 : decode cX7_tryOrders 17 = .ok (.iconst 0, 1) := by decide +kernel
theorem dX7_tryOrders_18 : decode cX7_tryOrders 18 = .ok (.putfield 395, 3) := by decide +kernel
theorem dX7_tryOrders_21 : decode cX7_tryOrders 21 = .ok (.aload_n 0, 1) := by decide +kernel
theorem dX7_tryOrders_22 : decode cX7_tryOrders 22 = .ok (.iconst 0, 1) := by decide +kernel
theorem dX7_tryOrders_23 : decode cX7_tryOrders 23 = .ok (.putfield 401, 3) := by decide +kernel
theorem dX7_tryOrders_26 : decode cX7_tryOrders 26 = .ok (.iconst 0, 1) := by decide +kernel
theorem dX7_tryOrders_27 : decode cX7_tryOrders 27 = .ok (.istore_n 1, 1) := by decide +kernel
theorem dX7_tryOrders_28 : decode cX7_tryOrders 28 = .ok (.iload_n 1, 1) := by decide +kernel
theorem dX7_tryOrders_29 : decode cX7_tryOrders 29 = .ok (.bipush 60, 2) := by decide +kernel
theorem dX7_tryOrders_31 : decode cX7_tryOrders 31 = .ok (.if_icmp .ge 78, 3) := by decide +kernel
theorem dX7_tryOrders_34 : decode cX7_tryOrders 34 = .ok (.aload_n 0, 1) := by decide +kernel
theorem dX7_tryOrders_35 : decode cX7_tryOrders 35 = .ok (.getfield 395, 3) := by decide +kernel
theorem dX7_tryOrders_38 : decode cX7_tryOrders 38 = .ok (.aload_n 0, 1) := by decide +kernel
theorem dX7_tryOrders_39 : decode cX7_tryOrders 39 = .ok (.getfield 43, 3) := by decide +kernel
theorem dX7_tryOrders_42 : decode cX7_tryOrders 42 = .ok (.getfield 376, 3) := by decide +kernel
theorem dX7_tryOrders_45 : decode cX7_tryOrders 45 = .ok (.if_icmp .ge 64, 3) := by decide +kernel
theorem dX7_tryOrders_48 : decode cX7_tryOrders 48 = .ok (.aload_n 0, 1) := by decide +kernel
theorem dX7_tryOrders_49 : decode cX7_tryOrders 49 = .ok (.aload_n 0, 1) := by decide +kernel
theorem dX7_tryOrders_50 : decode cX7_tryOrders 50 = .ok (.getfield 43, 3) := by decide +kernel
theorem dX7_tryOrders_53 : decode cX7_tryOrders 53 = .ok (.aload_n 0, 1) := by decide +kernel
theorem dX7_tryOrders_54 : decode cX7_tryOrders 54 = .ok (.getfield 395, 3) := by decide +kernel
theorem dX7_tryOrders_57 : decode cX7_tryOrders 57 = .ok (.invokevirtual 404, 3) := by decide +kernel
theorem dX7_tryOrders_60 : decode cX7_tryOrders 60 = .ok (.ifCond .eq 10, 3) := by decide +kernel
theorem dX7_tryOrders_63 : decode cX7_tryOrders 63 = .ok (.aload_n 0, 1) := by decide +kernel
theorem dX7_tryOrders_64 : decode cX7_tryOrders 64 = .ok (.invokevirtual 407, 3) := by decide +kernel
theorem dX7_tryOrders_67 : decode cX7_tryOrders 67 = .ok (.goto 4, 3) := by decide +kernel
theorem dX7_tryOrders_70 : decode cX7_tryOrders 70 = .ok (.iconst 1, 1) := by decide +kernel
theorem dX7_tryOrders_71 : decode cX7_tryOrders 71 = .ok (.putfield 392, 3) := by decide +kernel
theorem dX7_tryOrders_74 : decode cX7_tryOrders 74 = .ok (.aload_n 0, 1) := by decide +kernel
theorem dX7_tryOrders_75 : decode cX7_tryOrders 75 = .ok (.getfield 392, 3) := by decide +kernel
theorem dX7_tryOrders_78 : decode cX7_tryOrders 78 = .ok (.ifCond .eq 4, 3) := by decide +kernel
theorem dX7_tryOrders_81 : decode cX7_tryOrders 81 = .ok (.return_, 1) := by decide +kernel
theorem dX7_tryOrders_82 : decode cX7_tryOrders 82 = .ok (.aload_n 0, 1) := by decide +kernel
theorem dX7_tryOrders_83 : decode cX7_tryOrders 83 = .ok (.dup, 1) := by decide +kernel
theorem dX7_tryOrders_84 : decode cX7_tryOrders 84 = .ok (.getfield 401, 3) := by decide +kernel
theorem dX7_tryOrders_87 : decode cX7_tryOrders 87 = .ok (.iconst 1, 1) := by decide +kernel
theorem dX7_tryOrders_88 : decode cX7_tryOrders 88 = .ok (.iadd, 1) := by decide +kernel
theorem dX7_tryOrders_89 : decode cX7_tryOrders 89 = .ok (.putfield 401, 3) := by decide +kernel
theorem dX7_tryOrders_92 : decode cX7_tryOrders 92 = .ok (.aload_n 0, 1) := by decide +kernel
theorem dX7_tryOrders_93 : decode cX7_tryOrders 93 = .ok (.aload_n 0, 1) := by decide +kernel
theorem dX7_tryOrders_94 : decode cX7_tryOrders 94 = .ok (.getfield 43, 3) := by decide +kernel
theorem dX7_tryOrders_97 : decode cX7_tryOrders 97 = .ok (.getfield 410, 3) := by decide +kernel
theorem dX7_tryOrders_100 : decode cX7_tryOrders 100 = .ok (.putfield 395, 3) := by decide +kernel
theorem dX7_tryOrders_103 : decode cX7_tryOrders 103 = .ok (.iinc 1 1, 3) := by decide +kernel
theorem dX7_tryOrders_106 : decode cX7_tryOrders 106 = .ok (.goto (-78), 3) := by decide +kernel
theorem dX7_tryOrders_109 : decode cX7_tryOrders 109 = .ok (.return_, 1) := by decide +kernel
theorem dX7_obey_0 : decode cX7_obey 0 = .ok (.aload_n 0, 1) := by decide +kernel
theorem dX7_obey_1 : decode cX7_obey 1 = .ok (.getfield 43, 3) := by decide +kernel
theorem dX7_obey_4 : decode cX7_obey 4 = .ok (.getfield 413, 3) := by decide +kernel
theorem dX7_obey_7 : decode cX7_obey 7 = .ok (.bipush 115, 2) := by decide +kernel
theorem dX7_obey_9 : decode cX7_obey 9 = .ok (.if_icmp .ne 7, 3) := by decide +kernel
theorem dX7_obey_12 : decode cX7_obey 12 = .ok (.iconst 1, 1) := by decide +kernel
theorem dX7_obey_13 : decode cX7_obey 13 = .ok (.goto 4, 3) := by decide +kernel
theorem dX7_obey_16 : decode cX7_obey 16 = .ok (.iconst 0, 1) := by decide +kernel
theorem dX7_obey_17 : decode cX7_obey 17 = .ok (.istore_n 1, 1) := by decide +kernel
theorem dX7_obey_18 : decode cX7_obey 18 = .ok (.aload_n 0, 1) := by decide +kernel
theorem dX7_obey_19 : decode cX7_obey 19 = .ok (.getfield 16, 3) := by decide +kernel
theorem dX7_obey_22 : decode cX7_obey 22 = .ok (.iload_n 1, 1) := by decide +kernel
theorem dX7_obey_23 : decode cX7_obey 23 = .ok (.ifCond .eq 13, 3) := by decide +kernel
theorem dX7_obey_26 : decode cX7_obey 26 = .ok (.aload_n 0, 1) := by decide +kernel
theorem dX7_obey_27 : decode cX7_obey 27 = .ok (.getfield 16, 3) := by decide +kernel
theorem dX7_obey_30 : decode cX7_obey 30 = .ok (.invokevirtual 329, 3) := by decide +kernel
theorem dX7_obey_33 : decode cX7_obey 33 = .ok (.goto 10, 3) := by decide +kernel
theorem dX7_obey_36 : decode cX7_obey 36 = .ok (.aload_n 0, 1) := by decide +kernel
theorem dX7_obey_37 : decode cX7_obey 37 = .ok (.getfield 43, 3) := by decide +kernel
theorem dX7_obey_40 : decode cX7_obey 40 = .ok (.getfield 417, 3) := by decide +kernel
theorem dX7_obey_43 : decode cX7_obey 43 = .ok (.invokevirtual 121, 3) := by decide +kernel
theorem dX7_obey_46 : decode cX7_obey 46 = .ok (.astore_n 2, 1) := by decide +kernel
theorem dX7_obey_47 : decode cX7_obey 47 = .ok (.aload_n 2, 1) := by decide +kernel
theorem dX7_obey_48 : decode cX7_obey 48 = .ok (.ifnonnull 13, 3) := by decide +kernel
theorem dX7_obey_51 : decode cX7_obey 51 = .ok (.iload_n 1, 1) := by decide +kernel
theorem dX7_obey_52 : decode cX7_obey 52 = .ok (.ifCond .eq 7, 3) := by decide +kernel
theorem dX7_obey_55 : decode cX7_obey 55 = .ok (.iconst 3, 1) := by decide +kernel
theorem dX7_obey_56 : decode cX7_obey 56 = .ok (.goto 4, 3) := by decide +kernel
theorem dX7_obey_59 : decode cX7_obey 59 = .ok (.iconst 2, 1) := by decide +kernel
theorem dX7_obey_60 : decode cX7_obey 60 = .ok (.ireturn, 1) := by decide +kernel
theorem dX7_obey_61 : decode cX7_obey 61 = .ok (.aload_n 0, 1) := by decide +kernel
theorem dX7_obey_62 : decode cX7_obey 62 = .ok (.getfield 43, 3) := by decide +kernel
theorem dX7_obey_65 : decode cX7_obey 65 = .ok (.getfield 413, 3) := by decide +kernel
theorem dX7_obey_68 : decode cX7_obey 68 = .ok (.bipush 116, 2) := by decide +kernel
theorem dX7_obey_70 : decode cX7_obey 70 = .ok (.if_icmp .ne 9, 3) := by decide +kernel
theorem dX7_obey_73 : decode cX7_obey 73 = .ok (.aload_n 0, 1) := by decide +kernel
theorem dX7_obey_74 : decode cX7_obey 74 = .ok (.aload_n 2, 1) := by decide +kernel
theorem dX7_obey_75 : decode cX7_obey 75 = .ok (.invokevirtual 420, 3) := by decide +kernel
theorem dX7_obey_78 : decode cX7_obey 78 = .ok (.ireturn, 1) := by decide +kernel
theorem dX7_obey_79 : decode cX7_obey 79 = .ok (.aload_n 0, 1) := by decide +kernel
theorem dX7_obey_80 : decode cX7_obey 80 = .ok (.getfield 43, 3) := by decide +kernel
theorem dX7_obey_83 : decode cX7_obey 83 = .ok (.getfield 413, 3) := by decide +kernel
theorem dX7_obey_86 : decode cX7_obey 86 = .ok (.bipush 98, 2) := by decide +kernel
theorem dX7_obey_88 : decode cX7_obey 88 = .ok (.if_icmp .eq 15, 3) := by decide +kernel
theorem dX7_obey_91 : decode cX7_obey 91 = .ok (.aload_n 0, 1) := by decide +kernel
theorem dX7_obey_92 : decode cX7_obey 92 = .ok (.getfield 43, 3) := by decide +kernel
theorem dX7_obey_95 : decode cX7_obey 95 = .ok (.getfield 413, 3) := by decide +kernel
theorem dX7_obey_98 : decode cX7_obey 98 = .ok (.bipush 109, 2) := by decide +kernel
theorem dX7_obey_100 : decode cX7_obey 100 = .ok (.if_icmp .ne 9, 3) := by decide +kernel
theorem dX7_obey_103 : decode cX7_obey 103 = .ok (.aload_n 0, 1) := by decide +kernel
theorem dX7_obey_104 : decode cX7_obey 104 = .ok (.aload_n 2, 1) := by decide +kernel
theorem dX7_obey_105 : decode cX7_obey 105 = .ok (.invokevirtual 424, 3) := by decide +kernel
theorem dX7_obey_108 : decode cX7_obey 108 = .ok (.ireturn, 1) := by decide +kernel
theorem dX7_obey_109 : decode cX7_obey 109 = .ok (.iload_n 1, 1) := by decide +kernel
theorem dX7_obey_110 : decode cX7_obey 110 = .ok (.ifCond .eq 14, 3) := by decide +kernel
theorem dX7_obey_113 : decode cX7_obey 113 = .ok (.aload_n 0, 1) := by decide +kernel
theorem dX7_obey_114 : decode cX7_obey 114 = .ok (.getfield 16, 3) := by decide +kernel
theorem dX7_obey_117 : decode cX7_obey 117 = .ok (.aload_n 2, 1) := by decide +kernel
theorem dX7_obey_118 : decode cX7_obey 118 = .ok (.getfield 147, 3) := by decide +kernel
theorem dX7_obey_121 : decode cX7_obey 121 = .ok (.putfield 333, 3) := by decide +kernel
theorem dX7_obey_124 : decode cX7_obey 124 = .ok (.aload_n 0, 1) := by decide +kernel
theorem dX7_obey_125 : decode cX7_obey 125 = .ok (.getfield 29, 3) := by decide +kernel
theorem dX7_obey_128 : decode cX7_obey 128 = .ok (.aload_n 0, 1) := by decide +kernel
theorem dX7_obey_129 : decode cX7_obey 129 = .ok (.getfield 16, 3) := by decide +kernel
theorem dX7_obey_132 : decode cX7_obey 132 = .ok (.aload_n 2, 1) := by decide +kernel
theorem dX7_obey_133 : decode cX7_obey 133 = .ok (.invokevirtual 214, 3) := by decide +kernel
theorem dX7_obey_136 : decode cX7_obey 136 = .ok (.aload_n 0, 1) := by decide +kernel
theorem dX7_obey_137 : decode cX7_obey 137 = .ok (.getfield 29, 3) := by decide +kernel
theorem dX7_obey_140 : decode cX7_obey 140 = .ok (.getfield 218, 3) := by decide +kernel
theorem dX7_obey_143 : decode cX7_obey 143 = .ok (.ifCond .ne 16, 3) := by decide +kernel
theorem dX7_obey_146 : decode cX7_obey 146 = .ok (.aload_n 2, 1) := by decide +kernel
theorem dX7_obey_147 : decode cX7_obey 147 = .ok (.aload_n 0, 1) := by decide +kernel
theorem dX7_obey_148 : decode cX7_obey 148 = .ok (.getfield 29, 3) := by decide +kernel
theorem dX7_obey_151 : decode cX7_obey 151 = .ok (.getfield 323, 3) := by decide +kernel
theorem dX7_obey_154 : decode cX7_obey 154 = .ok (.invokevirtual 326, 3) := by decide +kernel
theorem dX7_obey_157 : decode cX7_obey 157 = .ok (.iconst 0, 1) := by decide +kernel
theorem dX7_obey_158 : decode cX7_obey 158 = .ok (.ireturn, 1) := by decide +kernel
theorem dX7_obey_159 : decode cX7_obey 159 = .ok (.iload_n 1, 1) := by decide +kernel
theorem dX7_obey_160 : decode cX7_obey 160 = .ok (.ifCond .eq 7, 3) := by decide +kernel
theorem dX7_obey_163 : decode cX7_obey 163 = .ok (.iconst 0, 1) := by decide +kernel
theorem dX7_obey_164 : decode cX7_obey 164 = .ok (.goto 4, 3) := by decide +kernel
theorem dX7_obey_167 : decode cX7_obey 167 = .ok (.iconst 3, 1) := by decide +kernel
theorem dX7_obey_168 : decode cX7_obey 168 = .ok (.ireturn, 1) := by decide +kernel
theorem dX7_obeyBath_0 : decode cX7_obeyBath 0 = .ok (.aload_n 0, 1) := by decide +kernel
theorem dX7_obeyBath_1 : decode cX7_obeyBath 1 = .ok (.getfield 16, 3) := by decide +kernel
theorem dX7_obeyBath_4 : decode cX7_obeyBath 4 = .ok (.aload_n 1, 1) := by decide +kernel
theorem dX7_obeyBath_5 : decode cX7_obeyBath 5 = .ok (.aload_n 0, 1) := by decide +kernel
theorem dX7_obeyBath_6 : decode cX7_obeyBath 6 = .ok (.getfield 43, 3) := by decide +kernel
theorem dX7_obeyBath_9 : decode cX7_obeyBath 9 = .ok (.getfield 427, 3) := by decide +kernel
theorem dX7_obeyBath_12 : decode cX7_obeyBath 12 = .ok (.invokevirtual 156, 3) := by decide +kernel
theorem dX7_obeyBath_15 : decode cX7_obeyBath 15 = .ok (.ifCond .ne 5, 3) := by decide +kernel
theorem dX7_obeyBath_18 : decode cX7_obeyBath 18 = .ok (.iconst 3, 1) := by decide +kernel
theorem dX7_obeyBath_19 : decode cX7_obeyBath 19 = .ok (.ireturn, 1) := by decide +kernel
theorem dX7_obeyBath_20 : decode cX7_obeyBath 20 = .ok (.aload_n 1, 1) := by decide +kernel
theorem dX7_obeyBath_21 : decode cX7_obeyBath 21 = .ok (.aload_n 0, 1) := by decide +kernel
theorem dX7_obeyBath_22 : decode cX7_obeyBath 22 = .ok (.getfield 43, 3) := by decide +kernel
theorem dX7_obeyBath_25 : decode cX7_obeyBath 25 = .ok (.getfield 427, 3) := by decide +kernel
theorem dX7_obeyBath_28 : decode cX7_obeyBath 28 = .ok (.putfield 160, 3) := by decide +kernel
theorem dX7_obeyBath_31 : decode cX7_obeyBath 31 = .ok (.iconst 0, 1) := by decide +kernel
theorem dX7_obeyBath_32 : decode cX7_obeyBath 32 = .ok (.ireturn, 1) := by decide +kernel
theorem dX7_obeyCut_0 : decode cX7_obeyCut 0 = .ok (.aload_n 1, 1) := by decide +kernel
theorem dX7_obeyCut_1 : decode cX7_obeyCut 1 = .ok (.aload_n 0, 1) := by decide +kernel
theorem dX7_obeyCut_2 : decode cX7_obeyCut 2 = .ok (.getfield 43, 3) := by decide +kernel
theorem dX7_obeyCut_5 : decode cX7_obeyCut 5 = .ok (.getfield 427, 3) := by decide +kernel
theorem dX7_obeyCut_8 : decode cX7_obeyCut 8 = .ok (.invokevirtual 163, 3) := by decide +kernel
theorem dX7_obeyCut_11 : decode cX7_obeyCut 11 = .ok (.ifCond .ne 5, 3) := by decide +kernel
theorem dX7_obeyCut_14 : decode cX7_obeyCut 14 = .ok (.iconst 2, 1) := by decide +kernel
theorem dX7_obeyCut_15 : decode cX7_obeyCut 15 = .ok (.ireturn, 1) := by decide +kernel
theorem dX7_obeyCut_16 : decode cX7_obeyCut 16 = .ok (.aload_n 1, 1) := by decide +kernel
theorem dX7_obeyCut_17 : decode cX7_obeyCut 17 = .ok (.aload_n 0, 1) := by decide +kernel
theorem dX7_obeyCut_18 : decode cX7_obeyCut 18 = .ok (.getfield 43, 3) := by decide +kernel
theorem dX7_obeyCut_21 : decode cX7_obeyCut 21 = .ok (.getfield 427, 3) := by decide +kernel
theorem dX7_obeyCut_24 : decode cX7_obeyCut 24 = .ok (.invokevirtual 190, 3) := by decide +kernel
theorem dX7_obeyCut_27 : decode cX7_obeyCut 27 = .ok (.aload_n 0, 1) := by decide +kernel
theorem dX7_obeyCut_28 : decode cX7_obeyCut 28 = .ok (.getfield 43, 3) := by decide +kernel
theorem dX7_obeyCut_31 : decode cX7_obeyCut 31 = .ok (.getfield 413, 3) := by decide +kernel
theorem dX7_obeyCut_34 : decode cX7_obeyCut 34 = .ok (.bipush 98, 2) := by decide +kernel
theorem dX7_obeyCut_36 : decode cX7_obeyCut 36 = .ok (.if_icmp .ne 7, 3) := by decide +kernel
theorem dX7_obeyCut_39 : decode cX7_obeyCut 39 = .ok (.iconst 1, 1) := by decide +kernel
theorem dX7_obeyCut_40 : decode cX7_obeyCut 40 = .ok (.goto 4, 3) := by decide +kernel
theorem dX7_obeyCut_43 : decode cX7_obeyCut 43 = .ok (.iconst 0, 1) := by decide +kernel
theorem dX7_obeyCut_44 : decode cX7_obeyCut 44 = .ok (.if_icmp .ne 5, 3) := by decide +kernel
theorem dX7_obeyCut_47 : decode cX7_obeyCut 47 = .ok (.iconst 3, 1) := by decide +kernel
theorem dX7_obeyCut_48 : decode cX7_obeyCut 48 = .ok (.ireturn, 1) := by decide +kernel
theorem dX7_obeyCut_49 : decode cX7_obeyCut 49 = .ok (.aload_n 1, 1) := by decide +kernel
theorem dX7_obeyCut_50 : decode cX7_obeyCut 50 = .ok (.aload_n 0, 1) := by decide +kernel
theorem dX7_obeyCut_51 : decode cX7_obeyCut 51 = .ok (.getfield 43, 3) := by decide +kernel
theorem dX7_obeyCut_54 : decode cX7_obeyCut 54 = .ok (.getfield 427, 3) := by decide +kernel
theorem dX7_obeyCut_57 : decode cX7_obeyCut 57 = .ok (.invokevirtual 193, 3) := by decide +kernel
theorem dX7_obeyCut_60 : decode cX7_obeyCut 60 = .ok (.iconst 0, 1) := by decide +kernel
theorem dX7_obeyCut_61 : decode cX7_obeyCut 61 = .ok (.ireturn, 1) := by decide +kernel
theorem dX7_insertSorted_0 : decode cX7_insertSorted 0 = .ok (.iload_n 2, 1) := by decide +kernel
theorem dX7_insertSorted_1 : decode cX7_insertSorted 1 = .ok (.istore_n 3, 1) := by decide +kernel
theorem dX7_insertSorted_2 : decode cX7_insertSorted 2 = .ok (.iload_n 3, 1) := by decide +kernel
theorem dX7_insertSorted_3 : decode cX7_insertSorted 3 = .ok (.ifCond .le 44, 3) := by decide +kernel
theorem dX7_insertSorted_6 : decode cX7_insertSorted 6 = .ok (.iload_n 3, 1) := by decide +kernel
theorem dX7_insertSorted_7 : decode cX7_insertSorted 7 = .ok (.aload_n 0, 1) := by decide +kernel
theorem dX7_insertSorted_8 : decode cX7_insertSorted 8 = .ok (.getfield 47, 3) := by decide +kernel
theorem dX7_insertSorted_11 : decode cX7_insertSorted 11 = .ok (.arraylength, 1) := by decide +kernel
theorem dX7_insertSorted_12 : decode cX7_insertSorted 12 = .ok (.if_icmp .ge 35, 3) := by decide +kernel
theorem dX7_insertSorted_15 : decode cX7_insertSorted 15 = .ok (.aload_n 0, 1) := by decide +kernel
theorem dX7_insertSorted_16 : decode cX7_insertSorted 16 = .ok (.getfield 47, 3) := by decide +kernel
theorem dX7_insertSorted_19 : decode cX7_insertSorted 19 = .ok (.iload_n 3, 1) := by decide +kernel
theorem dX7_insertSorted_20 : decode cX7_insertSorted 20 = .ok (.iconst 1, 1) := by decide +kernel
theorem dX7_insertSorted_21 : decode cX7_insertSorted 21 = .ok (.isub, 1) := by decide +kernel
theorem dX7_insertSorted_22 : decode cX7_insertSorted 22 = .ok (.iaload, 1) := by decide +kernel
theorem dX7_insertSorted_23 : decode cX7_insertSorted 23 = .ok (.iload_n 1, 1) := by decide +kernel
theorem dX7_insertSorted_24 : decode cX7_insertSorted 24 = .ok (.if_icmp .le 23, 3) := by decide +kernel
theorem dX7_insertSorted_27 : decode cX7_insertSorted 27 = .ok (.aload_n 0, 1) := by decide +kernel
theorem dX7_insertSorted_28 : decode cX7_insertSorted 28 = .ok (.getfield 47, 3) := by decide +kernel
theorem dX7_insertSorted_31 : decode cX7_insertSorted 31 = .ok (.iload_n 3, 1) := by decide +kernel
theorem dX7_insertSorted_32 : decode cX7_insertSorted 32 = .ok (.aload_n 0, 1) := by decide +kernel
theorem dX7_insertSorted_33 : decode cX7_insertSorted 33 = .ok (.getfield 47, 3) := by decide +kernel
theorem dX7_insertSorted_36 : decode cX7_insertSorted 36 = .ok (.iload_n 3, 1) := by decide +kernel
theorem dX7_insertSorted_37 : decode cX7_insertSorted 37 = .ok (.iconst 1, 1) := by decide +kernel
theorem dX7_insertSorted_38 : decode cX7_insertSorted 38 = .ok (.isub, 1) := by decide +kernel
theorem dX7_insertSorted_39 : decode cX7_insertSorted 39 = .ok (.iaload, 1) := by decide +kernel
theorem dX7_insertSorted_40 : decode cX7_insertSorted 40 = .ok (.iastore, 1) := by decide +kernel
theorem dX7_insertSorted_41 : decode cX7_insertSorted 41 = .ok (.iinc 3 (-1), 3) := by decide +kernel
theorem dX7_insertSorted_44 : decode cX7_insertSorted 44 = .ok (.goto (-42), 3) := by decide +kernel
theorem dX7_insertSorted_47 : decode cX7_insertSorted 47 = .ok (.iload_n 3, 1) := by decide +kernel
theorem dX7_insertSorted_48 : decode cX7_insertSorted 48 = .ok (.ifCond .lt 19, 3) := by decide +kernel
theorem dX7_insertSorted_51 : decode cX7_insertSorted 51 = .ok (.iload_n 3, 1) := by decide +kernel
theorem dX7_insertSorted_52 : decode cX7_insertSorted 52 = .ok (.aload_n 0, 1) := by decide +kernel
theorem dX7_insertSorted_53 : decode cX7_insertSorted 53 = .ok (.getfield 47, 3) := by decide +kernel
theorem dX7_insertSorted_56 : decode cX7_insertSorted 56 = .ok (.arraylength, 1) := by decide +kernel
theorem dX7_insertSorted_57 : decode cX7_insertSorted 57 = .ok (.if_icmp .ge 10, 3) := by decide +kernel
theorem dX7_insertSorted_60 : decode cX7_insertSorted 60 = .ok (.aload_n 0, 1) := by decide +kernel
theorem dX7_insertSorted_61 : decode cX7_insertSorted 61 = .ok (.getfield 47, 3) := by decide +kernel
theorem dX7_insertSorted_64 : decode cX7_insertSorted 64 = .ok (.iload_n 3, 1) := by decide +kernel
theorem dX7_insertSorted_65 : decode cX7_insertSorted 65 = .ok (.iload_n 1, 1) := by decide +kernel
theorem dX7_insertSorted_66 : decode cX7_insertSorted 66 = .ok (.iastore, 1) := by decide +kernel
theorem dX7_insertSorted_67 : decode cX7_insertSorted 67 = .ok (.return_, 1) := by decide +kernel
theorem dX7_bitsOf_0 : decode cX7_bitsOf 0 = .ok (.fload_n 0, 1) := by decide +kernel
theorem dX7_bitsOf_1 : decode cX7_bitsOf 1 = .ok (.fconst 0, 1) := by decide +kernel
theorem dX7_bitsOf_2 : decode cX7_bitsOf 2 = .ok (.fcmp .l, 1) := by decide +kernel
theorem dX7_bitsOf_3 : decode cX7_bitsOf 3 = .ok (.ifCond .ne 5, 3) := by decide +kernel
theorem dX7_bitsOf_6 : decode cX7_bitsOf 6 = .ok (.iconst 0, 1) := by decide +kernel
theorem dX7_bitsOf_7 : decode cX7_bitsOf 7 = .ok (.ireturn, 1) := by decide +kernel
theorem dX7_bitsOf_8 : decode cX7_bitsOf 8 = .ok (.fload_n 0, 1) := by decide +kernel
theorem dX7_bitsOf_9 : decode cX7_bitsOf 9 = .ok (.fconst 0, 1) := by decide +kernel
theorem dX7_bitsOf_10 : decode cX7_bitsOf 10 = .ok (.fcmp .g, 1) := by decide +kernel
theorem dX7_bitsOf_11 : decode cX7_bitsOf 11 = .ok (.ifCond .ge 8, 3) := by decide +kernel
theorem dX7_bitsOf_14 : decode cX7_bitsOf 14 = .ok (.fload_n 0, 1) := by decide +kernel
theorem dX7_bitsOf_15 : decode cX7_bitsOf 15 = .ok (.fneg, 1) := by decide +kernel
theorem dX7_bitsOf_16 : decode cX7_bitsOf 16 = .ok (.goto 4, 3) := by decide +kernel
theorem dX7_bitsOf_19 : decode cX7_bitsOf 19 = .ok (.fload_n 0, 1) := by decide +kernel
theorem dX7_bitsOf_20 : decode cX7_bitsOf 20 = .ok (.fstore_n 1, 1) := by decide +kernel
theorem dX7_bitsOf_21 : decode cX7_bitsOf 21 = .ok (.bipush 127, 2) := by decide +kernel
theorem dX7_bitsOf_23 : decode cX7_bitsOf 23 = .ok (.istore_n 2, 1) := by decide +kernel
theorem dX7_bitsOf_24 : decode cX7_bitsOf 24 = .ok (.iconst 0, 1) := by decide +kernel
theorem dX7_bitsOf_25 : decode cX7_bitsOf 25 = .ok (.istore_n 3, 1) := by decide +kernel
theorem dX7_bitsOf_26 : decode cX7_bitsOf 26 = .ok (.iload_n 3, 1) := by decide +kernel
theorem dX7_bitsOf_27 : decode cX7_bitsOf 27 = .ok (.sipush 150, 3) := by decide +kernel
theorem dX7_bitsOf_30 : decode cX7_bitsOf 30 = .ok (.if_icmp .ge 22, 3) := by decide +kernel
theorem dX7_bitsOf_33 : decode cX7_bitsOf 33 = .ok (.fload_n 1, 1) := by decide +kernel
theorem dX7_bitsOf_34 : decode cX7_bitsOf 34 = .ok (.fconst 2, 1) := by decide +kernel
theorem dX7_bitsOf_35 : decode cX7_bitsOf 35 = .ok (.fcmp .l, 1) := by decide +kernel
theorem dX7_bitsOf_36 : decode cX7_bitsOf 36 = .ok (.ifCond .lt 16, 3) := by decide +kernel
theorem dX7_bitsOf_39 : decode cX7_bitsOf 39 = .ok (.fload_n 1, 1) := by decide +kernel
theorem dX7_bitsOf_40 : decode cX7_bitsOf 40 = .ok (.fconst 2, 1) := by decide +kernel
theorem dX7_bitsOf_41 : decode cX7_bitsOf 41 = .ok (.fdiv, 1) := by decide +kernel
theorem dX7_bitsOf_42 : decode cX7_bitsOf 42 = .ok (.fstore_n 1, 1) := by decide +kernel
theorem dX7_bitsOf_43 : decode cX7_bitsOf 43 = .ok (.iinc 2 1, 3) := by decide +kernel
theorem dX7_bitsOf_46 : decode cX7_bitsOf 46 = .ok (.iinc 3 1, 3) := by decide +kernel
theorem dX7_bitsOf_49 : decode cX7_bitsOf 49 = .ok (.goto (-23), 3) := by decide +kernel
theorem dX7_bitsOf_52 : decode cX7_bitsOf 52 = .ok (.iconst 0, 1) := by decide +kernel
theorem dX7_bitsOf_53 : decode cX7_bitsOf 53 = .ok (.istore_n 3, 1) := by decide +kernel
theorem dX7_bitsOf_54 : decode cX7_bitsOf 54 = .ok (.iload_n 3, 1) := by decide +kernel
theorem dX7_bitsOf_55 : decode cX7_bitsOf 55 = .ok (.sipush 150, 3) := by decide +kernel
theorem dX7_bitsOf_58 : decode cX7_bitsOf 58 = .ok (.if_icmp .ge 22, 3) := by decide +kernel
theorem dX7_bitsOf_61 : decode cX7_bitsOf 61 = .ok (.fload_n 1, 1) := by decide +kernel
theorem dX7_bitsOf_62 : decode cX7_bitsOf 62 = .ok (.fconst 1, 1) := by decide +kernel
theorem dX7_bitsOf_63 : decode cX7_bitsOf 63 = .ok (.fcmp .g, 1) := by decide +kernel
theorem dX7_bitsOf_64 : decode cX7_bitsOf 64 = .ok (.ifCond .ge 16, 3) := by decide +kernel
theorem dX7_bitsOf_67 : decode cX7_bitsOf 67 = .ok (.fload_n 1, 1) := by decide +kernel
theorem dX7_bitsOf_68 : decode cX7_bitsOf 68 = .ok (.fconst 2, 1) := by decide +kernel
theorem dX7_bitsOf_69 : decode cX7_bitsOf 69 = .ok (.fmul, 1) := by decide +kernel
theorem dX7_bitsOf_70 : decode cX7_bitsOf 70 = .ok (.fstore_n 1, 1) := by decide +kernel
theorem dX7_bitsOf_71 : decode cX7_bitsOf 71 = .ok (.iinc 2 (-1), 3) := by decide +kernel
theorem dX7_bitsOf_74 : decode cX7_bitsOf 74 = .ok (.iinc 3 1, 3) := by decide +kernel
theorem dX7_bitsOf_77 : decode cX7_bitsOf 77 = .ok (.goto (-23), 3) := by decide +kernel
theorem dX7_bitsOf_80 : decode cX7_bitsOf 80 = .ok (.fload_n 1, 1) := by decide +kernel
theorem dX7_bitsOf_81 : decode cX7_bitsOf 81 = .ok (.fconst 1, 1) := by decide +kernel
theorem dX7_bitsOf_82 : decode cX7_bitsOf 82 = .ok (.fsub, 1) := by decide +kernel
theorem dX7_bitsOf_83 : decode cX7_bitsOf 83 = .ok (.ldc_w 430, 3) := by decide +kernel
theorem dX7_bitsOf_86 : decode cX7_bitsOf 86 = .ok (.fmul, 1) := by decide +kernel
theorem dX7_bitsOf_87 : decode cX7_bitsOf 87 = .ok (.f2i, 1) := by decide +kernel
theorem dX7_bitsOf_88 : decode cX7_bitsOf 88 = .ok (.istore_n 3, 1) := by decide +kernel
theorem dX7_bitsOf_89 : decode cX7_bitsOf 89 = .ok (.fload_n 0, 1) := by decide +kernel
theorem dX7_bitsOf_90 : decode cX7_bitsOf 90 = .ok (.fconst 0, 1) := by decide +kernel
theorem dX7_bitsOf_91 : decode cX7_bitsOf 91 = .ok (.fcmp .g, 1) := by decide +kernel
theorem dX7_bitsOf_92 : decode cX7_bitsOf 92 = .ok (.ifCond .ge 9, 3) := by decide +kernel
theorem dX7_bitsOf_95 : decode cX7_bitsOf 95 = .ok (.ldc_w 431, 3) := by decide +kernel
theorem dX7_bitsOf_98 : decode cX7_bitsOf 98 = .ok (.goto 4, 3) := by decide +kernel
theorem dX7_bitsOf_101 : decode cX7_bitsOf 101 = .ok (.iconst 0, 1) := by decide +kernel
theorem dX7_bitsOf_102 : decode cX7_bitsOf 102 = .ok (.istore 4, 2) := by decide +kernel
theorem dX7_bitsOf_104 : decode cX7_bitsOf 104 = .ok (.iload 4, 2) := by decide +kernel
theorem dX7_bitsOf_106 : decode cX7_bitsOf 106 = .ok (.iload_n 2, 1) := by decide +kernel
theorem dX7_bitsOf_107 : decode cX7_bitsOf 107 = .ok (.bipush 23, 2) := by decide +kernel
theorem dX7_bitsOf_109 : decode cX7_bitsOf 109 = .ok (.ishl, 1) := by decide +kernel
theorem dX7_bitsOf_110 : decode cX7_bitsOf 110 = .ok (.ior, 1) := by decide +kernel
theorem dX7_bitsOf_111 : decode cX7_bitsOf 111 = .ok (.iload_n 3, 1) := by decide +kernel
theorem dX7_bitsOf_112 : decode cX7_bitsOf 112 = .ok (.ior, 1) := by decide +kernel
theorem dX7_bitsOf_113 : decode cX7_bitsOf 113 = .ok (.ireturn, 1) := by decide +kernel
theorem dX7_isWithin_0 : decode cX7_isWithin 0 = .ok (.lload_n 0, 1) := by decide +kernel
theorem dX7_isWithin_1 : decode cX7_isWithin 1 = .ok (.lload_n 2, 1) := by decide +kernel
theorem dX7_isWithin_2 : decode cX7_isWithin 2 = .ok (.lcmp, 1) := by decide +kernel
theorem dX7_isWithin_3 : decode cX7_isWithin 3 = .ok (.ifCond .lt 14, 3) := by decide +kernel
theorem dX7_isWithin_6 : decode cX7_isWithin 6 = .ok (.lload_n 0, 1) := by decide +kernel
theorem dX7_isWithin_7 : decode cX7_isWithin 7 = .ok (.lload 4, 2) := by decide +kernel
theorem dX7_isWithin_9 : decode cX7_isWithin 9 = .ok (.lcmp, 1) := by decide +kernel
theorem dX7_isWithin_10 : decode cX7_isWithin 10 = .ok (.ifCond .gt 7, 3) := by decide +kernel
theorem dX7_isWithin_13 : decode cX7_isWithin 13 = .ok (.iconst 1, 1) := by decide +kernel
theorem dX7_isWithin_14 : decode cX7_isWithin 14 = .ok (.goto 4, 3) := by decide +kernel
theorem dX7_isWithin_17 : decode cX7_isWithin 17 = .ok (.iconst 0, 1) := by decide +kernel
theorem dX7_isWithin_18 : decode cX7_isWithin 18 = .ok (.ireturn, 1) := by decide +kernel
theorem dX7_isTemperature_0 : decode cX7_isTemperature 0 = .ok (.iload_n 0, 1) := by decide +kernel
theorem dX7_isTemperature_1 : decode cX7_isTemperature 1 = .ok (.i2l, 1) := by decide +kernel
theorem dX7_isTemperature_2 : decode cX7_isTemperature 2 = .ok (.ldc2_w 432, 3) := by decide +kernel
theorem dX7_isTemperature_5 : decode cX7_isTemperature 5 = .ok (.ldc2_w 232, 3) := by decide +kernel
theorem dX7_isTemperature_8 : decode cX7_isTemperature 8 = .ok (.invokestatic 70, 3) := by decide +kernel
theorem dX7_isTemperature_11 : decode cX7_isTemperature 11 = .ok (.ireturn, 1) := by decide +kernel
theorem dX7_isBase_0 : decode cX7_isBase 0 = .ok (.lload_n 0, 1) := by decide +kernel
theorem dX7_isBase_1 : decode cX7_isBase 1 = .ok (.ldc2_w 434, 3) := by decide +kernel
theorem dX7_isBase_4 : decode cX7_isBase 4 = .ok (.ldc2_w 436, 3) := by decide +kernel
theorem dX7_isBase_7 : decode cX7_isBase 7 = .ok (.invokestatic 70, 3) := by decide +kernel
theorem dX7_isBase_10 : decode cX7_isBase 10 = .ok (.ireturn, 1) := by decide +kernel
theorem dX7_isSlot_0 : decode cX7_isSlot 0 = .ok (.iload_n 0, 1) := by decide +kernel
theorem dX7_isSlot_1 : decode cX7_isSlot 1 = .ok (.i2l, 1) := by decide +kernel
theorem dX7_isSlot_2 : decode cX7_isSlot 2 = .ok (.lconst 0, 1) := by decide +kernel
theorem dX7_isSlot_3 : decode cX7_isSlot 3 = .ok (.ldc2_w 438, 3) := by decide +kernel
theorem dX7_isSlot_6 : decode cX7_isSlot 6 = .ok (.invokestatic 70, 3) := by decide +kernel
theorem dX7_isSlot_9 : decode cX7_isSlot 9 = .ok (.ifCond .eq 19, 3) := by decide +kernel
theorem dX7_isSlot_12 : decode cX7_isSlot 12 = .ok (.iload_n 1, 1) := by decide +kernel
theorem dX7_isSlot_13 : decode cX7_isSlot 13 = .ok (.i2l, 1) := by decide +kernel
theorem dX7_isSlot_14 : decode cX7_isSlot 14 = .ok (.lconst 0, 1) := by decide +kernel
theorem dX7_isSlot_15 : decode cX7_isSlot 15 = .ok (.ldc2_w 110, 3) := by decide +kernel
theorem dX7_isSlot_18 : decode cX7_isSlot 18 = .ok (.invokestatic 70, 3) := by decide +kernel
theorem dX7_isSlot_21 : decode cX7_isSlot 21 = .ok (.ifCond .eq 7, 3) := by decide +kernel
theorem dX7_isSlot_24 : decode cX7_isSlot 24 = .ok (.iconst 1, 1) := by decide +kernel
theorem dX7_isSlot_25 : decode cX7_isSlot 25 = .ok (.goto 4, 3) := by decide +kernel
theorem dX7_isSlot_28 : decode cX7_isSlot 28 = .ok (.iconst 0, 1) := by decide +kernel
theorem dX7_isSlot_29 : decode cX7_isSlot 29 = .ok (.ireturn, 1) := by decide +kernel
theorem dX7_isInRow_0 : decode cX7_isInRow 0 = .ok (.iload_n 1, 1) := by decide +kernel
theorem dX7_isInRow_1 : decode cX7_isInRow 1 = .ok (.ifCond .lt 33, 3) := by decide +kernel
theorem dX7_isInRow_4 : decode cX7_isInRow 4 = .ok (.iload_n 1, 1) := by decide +kernel
theorem dX7_isInRow_5 : decode cX7_isInRow 5 = .ok (.aload_n 2, 1) := by decide +kernel
theorem dX7_isInRow_6 : decode cX7_isInRow 6 = .ok (.arraylength, 1) := by decide +kernel
theorem dX7_isInRow_7 : decode cX7_isInRow 7 = .ok (.if_icmp .ge 27, 3) := by decide +kernel
theorem dX7_isInRow_10 : decode cX7_isInRow 10 = .ok (.iload_n 1, 1) := by decide +kernel
theorem dX7_isInRow_11 : decode cX7_isInRow 11 = .ok (.aload_n 3, 1) := by decide +kernel
theorem dX7_isInRow_12 : decode cX7_isInRow 12 = .ok (.arraylength, 1) := by decide +kernel
theorem dX7_isInRow_13 : decode cX7_isInRow 13 = .ok (.if_icmp .ge 21, 3) := by decide +kernel
theorem dX7_isInRow_16 : decode cX7_isInRow 16 = .ok (.iload_n 0, 1) := by decide +kernel
theorem dX7_isInRow_17 : decode cX7_isInRow 17 = .ok (.aload_n 2, 1) := by decide +kernel
theorem dX7_isInRow_18 : decode cX7_isInRow 18 = .ok (.iload_n 1, 1) := by decide +kernel
theorem dX7_isInRow_19 : decode cX7_isInRow 19 = .ok (.iaload, 1) := by decide +kernel
theorem dX7_isInRow_20 : decode cX7_isInRow 20 = .ok (.if_icmp .lt 14, 3) := by decide +kernel
theorem dX7_isInRow_23 : decode cX7_isInRow 23 = .ok (.iload_n 0, 1) := by decide +kernel
theorem dX7_isInRow_24 : decode cX7_isInRow 24 = .ok (.aload_n 3, 1) := by decide +kernel
theorem dX7_isInRow_25 : decode cX7_isInRow 25 = .ok (.iload_n 1, 1) := by decide +kernel
theorem dX7_isInRow_26 : decode cX7_isInRow 26 = .ok (.iaload, 1) := by decide +kernel
theorem dX7_isInRow_27 : decode cX7_isInRow 27 = .ok (.if_icmp .gt 7, 3) := by decide +kernel
theorem dX7_isInRow_30 : decode cX7_isInRow 30 = .ok (.iconst 1, 1) := by decide +kernel
theorem dX7_isInRow_31 : decode cX7_isInRow 31 = .ok (.goto 4, 3) := by decide +kernel
theorem dX7_isInRow_34 : decode cX7_isInRow 34 = .ok (.iconst 0, 1) := by decide +kernel
theorem dX7_isInRow_35 : decode cX7_isInRow 35 = .ok (.ireturn, 1) := by decide +kernel
theorem dX7_toldPlace_0 : decode cX7_toldPlace 0 = .ok (.iload_n 0, 1) := by decide +kernel
theorem dX7_toldPlace_1 : decode cX7_toldPlace 1 = .ok (.iconst 3, 1) := by decide +kernel
theorem dX7_toldPlace_2 : decode cX7_toldPlace 2 = .ok (.idiv, 1) := by decide +kernel
theorem dX7_toldPlace_3 : decode cX7_toldPlace 3 = .ok (.bipush 10, 2) := by decide +kernel
theorem dX7_toldPlace_5 : decode cX7_toldPlace 5 = .ok (.imul, 1) := by decide +kernel
theorem dX7_toldPlace_6 : decode cX7_toldPlace 6 = .ok (.iload_n 0, 1) := by decide +kernel
theorem dX7_toldPlace_7 : decode cX7_toldPlace 7 = .ok (.iconst 3, 1) := by decide +kernel
theorem dX7_toldPlace_8 : decode cX7_toldPlace 8 = .ok (.irem, 1) := by decide +kernel
theorem dX7_toldPlace_9 : decode cX7_toldPlace 9 = .ok (.iadd, 1) := by decide +kernel
theorem dX7_toldPlace_10 : decode cX7_toldPlace 10 = .ok (.ireturn, 1) := by decide +kernel
theorem dJxf58ca_isNaN_12338_0 : decode cJxf58ca_isNaN_12338 0 = .ok (.fload_n 0, 1) := by decide +kernel
theorem dJxf58ca_isNaN_12338_1 : decode cJxf58ca_isNaN_12338 1 = .ok (.fload_n 0, 1) := by decide +kernel
theorem dJxf58ca_isNaN_12338_2 : decode cJxf58ca_isNaN_12338 2 = .ok (.fcmp .l, 1) := by decide +kernel
theorem dJxf58ca_isNaN_12338_3 : decode cJxf58ca_isNaN_12338 3 = .ok (.ifCond .eq 7, 3) := by decide +kernel
theorem dJxf58ca_isNaN_12338_6 : decode cJxf58ca_isNaN_12338 6 = .ok (.iconst 1, 1) := by decide +kernel
theorem dJxf58ca_isNaN_12338_7 : decode cJxf58ca_isNaN_12338 7 = .ok (.goto 4, 3) := by decide +kernel
theorem dJxf58ca_isNaN_12338_10 : decode cJxf58ca_isNaN_12338 10 = .ok (.iconst 0, 1) := by decide +kernel
theorem dJxf58ca_isNaN_12338_11 : decode cJxf58ca_isNaN_12338 11 = .ok (.ireturn, 1) := by decide +kernel
theorem dJxf58ca_floatToIntBits_5c35a_0 : decode cJxf58ca_floatToIntBits_5c35a 0 = .ok (.fload_n 0, 1) := by decide +kernel
theorem dJxf58ca_floatToIntBits_5c35a_1 : decode cJxf58ca_floatToIntBits_5c35a 1 = .ok (.invokestatic 59, 3) := by decide +kernel
theorem dJxf58ca_floatToIntBits_5c35a_4 : decode cJxf58ca_floatToIntBits_5c35a 4 = .ok (.ifCond .ne 8, 3) := by decide +kernel
theorem dJxf58ca_floatToIntBits_5c35a_7 : decode cJxf58ca_floatToIntBits_5c35a 7 = .ok (.fload_n 0, 1) := by decide +kernel
theorem dJxf58ca_floatToIntBits_5c35a_8 : decode cJxf58ca_floatToIntBits_5c35a 8 = .ok (.invokestatic 74, 3) := by decide +kernel
theorem dJxf58ca_floatToIntBits_5c35a_11 : decode cJxf58ca_floatToIntBits_5c35a 11 = .ok (.ireturn, 1) := by decide +kernel
theorem dJxf58ca_floatToIntBits_5c35a_12 : decode cJxf58ca_floatToIntBits_5c35a 12 = .ok (.ldc 77, 2) := by decide +kernel
theorem dJxf58ca_floatToIntBits_5c35a_14 : decode cJxf58ca_floatToIntBits_5c35a 14 = .ok (.ireturn, 1) := by decide +kernel
theorem dJ6_bitCount_0f7a4_0 : decode cJ6_bitCount_0f7a4 0 = .ok (.iload_n 0, 1) := by decide +kernel
theorem dJ6_bitCount_0f7a4_1 : decode cJ6_bitCount_0f7a4 1 = .ok (.iload_n 0, 1) := by decide +kernel
theorem dJ6_bitCount_0f7a4_2 : decode cJ6_bitCount_0f7a4 2 = .ok (.iconst 1, 1) := by decide +kernel
theorem dJ6_bitCount_0f7a4_3 : decode cJ6_bitCount_0f7a4 3 = .ok (.iushr, 1) := by decide +kernel
theorem dJ6_bitCount_0f7a4_4 : decode cJ6_bitCount_0f7a4 4 = .ok (.ldc_w 265, 3) := by decide +kernel
theorem dJ6_bitCount_0f7a4_7 : decode cJ6_bitCount_0f7a4 7 = .ok (.iand, 1) := by decide +kernel
theorem dJ6_bitCount_0f7a4_8 : decode cJ6_bitCount_0f7a4 8 = .ok (.isub, 1) := by decide +kernel
theorem dJ6_bitCount_0f7a4_9 : decode cJ6_bitCount_0f7a4 9 = .ok (.istore_n 0, 1) := by decide +kernel
theorem dJ6_bitCount_0f7a4_10 : decode cJ6_bitCount_0f7a4 10 = .ok (.iload_n 0, 1) := by decide +kernel
theorem dJ6_bitCount_0f7a4_11 : decode cJ6_bitCount_0f7a4 11 = .ok (.ldc_w 266, 3) := by decide +kernel
theorem dJ6_bitCount_0f7a4_14 : decode cJ6_bitCount_0f7a4 14 = .ok (.iand, 1) := by decide +kernel
theorem dJ6_bitCount_0f7a4_15 : decode cJ6_bitCount_0f7a4 15 = .ok (.iload_n 0, 1) := by decide +kernel
theorem dJ6_bitCount_0f7a4_16 : decode cJ6_bitCount_0f7a4 16 = .ok (.iconst 2, 1) := by decide +kernel
theorem dJ6_bitCount_0f7a4_17 : decode cJ6_bitCount_0f7a4 17 = .ok (.iushr, 1) := by decide +kernel
theorem dJ6_bitCount_0f7a4_18 : decode cJ6_bitCount_0f7a4 18 = .ok (.ldc_w 266, 3) := by decide +kernel
theorem dJ6_bitCount_0f7a4_21 : decode cJ6_bitCount_0f7a4 21 = .ok (.iand, 1) := by decide +kernel
theorem dJ6_bitCount_0f7a4_22 : decode cJ6_bitCount_0f7a4 22 = .ok (.iadd, 1) := by decide +kernel
theorem dJ6_bitCount_0f7a4_23 : decode cJ6_bitCount_0f7a4 23 = .ok (.istore_n 0, 1) := by decide +kernel
theorem dJ6_bitCount_0f7a4_24 : decode cJ6_bitCount_0f7a4 24 = .ok (.iload_n 0, 1) := by decide +kernel
theorem dJ6_bitCount_0f7a4_25 : decode cJ6_bitCount_0f7a4 25 = .ok (.iload_n 0, 1) := by decide +kernel
theorem dJ6_bitCount_0f7a4_26 : decode cJ6_bitCount_0f7a4 26 = .ok (.iconst 4, 1) := by decide +kernel
theorem dJ6_bitCount_0f7a4_27 : decode cJ6_bitCount_0f7a4 27 = .ok (.iushr, 1) := by decide +kernel
theorem dJ6_bitCount_0f7a4_28 : decode cJ6_bitCount_0f7a4 28 = .ok (.iadd, 1) := by decide +kernel
theorem dJ6_bitCount_0f7a4_29 : decode cJ6_bitCount_0f7a4 29 = .ok (.ldc_w 267, 3) := by decide +kernel
theorem dJ6_bitCount_0f7a4_32 : decode cJ6_bitCount_0f7a4 32 = .ok (.iand, 1) := by decide +kernel
theorem dJ6_bitCount_0f7a4_33 : decode cJ6_bitCount_0f7a4 33 = .ok (.istore_n 0, 1) := by decide +kernel
theorem dJ6_bitCount_0f7a4_34 : decode cJ6_bitCount_0f7a4 34 = .ok (.iload_n 0, 1) := by decide +kernel
theorem dJ6_bitCount_0f7a4_35 : decode cJ6_bitCount_0f7a4 35 = .ok (.iload_n 0, 1) := by decide +kernel
theorem dJ6_bitCount_0f7a4_36 : decode cJ6_bitCount_0f7a4 36 = .ok (.bipush 8, 2) := by decide +kernel
theorem dJ6_bitCount_0f7a4_38 : decode cJ6_bitCount_0f7a4 38 = .ok (.iushr, 1) := by decide +kernel
theorem dJ6_bitCount_0f7a4_39 : decode cJ6_bitCount_0f7a4 39 = .ok (.iadd, 1) := by decide +kernel
theorem dJ6_bitCount_0f7a4_40 : decode cJ6_bitCount_0f7a4 40 = .ok (.istore_n 0, 1) := by decide +kernel
theorem dJ6_bitCount_0f7a4_41 : decode cJ6_bitCount_0f7a4 41 = .ok (.iload_n 0, 1) := by decide +kernel
theorem dJ6_bitCount_0f7a4_42 : decode cJ6_bitCount_0f7a4 42 = .ok (.iload_n 0, 1) := by decide +kernel
theorem dJ6_bitCount_0f7a4_43 : decode cJ6_bitCount_0f7a4 43 = .ok (.bipush 16, 2) := by decide +kernel
theorem dJ6_bitCount_0f7a4_45 : decode cJ6_bitCount_0f7a4 45 = .ok (.iushr, 1) := by decide +kernel
theorem dJ6_bitCount_0f7a4_46 : decode cJ6_bitCount_0f7a4 46 = .ok (.iadd, 1) := by decide +kernel
theorem dJ6_bitCount_0f7a4_47 : decode cJ6_bitCount_0f7a4 47 = .ok (.istore_n 0, 1) := by decide +kernel
theorem dJ6_bitCount_0f7a4_48 : decode cJ6_bitCount_0f7a4 48 = .ok (.iload_n 0, 1) := by decide +kernel
theorem dJ6_bitCount_0f7a4_49 : decode cJ6_bitCount_0f7a4 49 = .ok (.bipush 63, 2) := by decide +kernel
theorem dJ6_bitCount_0f7a4_51 : decode cJ6_bitCount_0f7a4 51 = .ok (.iand, 1) := by decide +kernel
theorem dJ6_bitCount_0f7a4_52 : decode cJ6_bitCount_0f7a4 52 = .ok (.ireturn, 1) := by decide +kernel
theorem dJ9_abs_0f7a4_0 : decode cJ9_abs_0f7a4 0 = .ok (.iload_n 0, 1) := by decide +kernel
theorem dJ9_abs_0f7a4_1 : decode cJ9_abs_0f7a4 1 = .ok (.ifCond .ge 8, 3) := by decide +kernel
theorem dJ9_abs_0f7a4_4 : decode cJ9_abs_0f7a4 4 = .ok (.iload_n 0, 1) := by decide +kernel
theorem dJ9_abs_0f7a4_5 : decode cJ9_abs_0f7a4 5 = .ok (.ineg, 1) := by decide +kernel
theorem dJ9_abs_0f7a4_6 : decode cJ9_abs_0f7a4 6 = .ok (.goto 4, 3) := by decide +kernel
theorem dJ9_abs_0f7a4_9 : decode cJ9_abs_0f7a4 9 = .ok (.iload_n 0, 1) := by decide +kernel
theorem dJ9_abs_0f7a4_10 : decode cJ9_abs_0f7a4 10 = .ok (.ireturn, 1) := by decide +kernel
theorem dJ9_max_7cf53_0 : decode cJ9_max_7cf53 0 = .ok (.iload_n 0, 1) := by decide +kernel
theorem dJ9_max_7cf53_1 : decode cJ9_max_7cf53 1 = .ok (.iload_n 1, 1) := by decide +kernel
theorem dJ9_max_7cf53_2 : decode cJ9_max_7cf53 2 = .ok (.if_icmp .lt 7, 3) := by decide +kernel
theorem dJ9_max_7cf53_5 : decode cJ9_max_7cf53 5 = .ok (.iload_n 0, 1) := by decide +kernel
theorem dJ9_max_7cf53_6 : decode cJ9_max_7cf53 6 = .ok (.goto 4, 3) := by decide +kernel
theorem dJ9_max_7cf53_9 : decode cJ9_max_7cf53 9 = .ok (.iload_n 1, 1) := by decide +kernel
theorem dJ9_max_7cf53_10 : decode cJ9_max_7cf53 10 = .ok (.ireturn, 1) := by decide +kernel
theorem dJ9_max_f86c9_0 : decode cJ9_max_f86c9 0 = .ok (.lload_n 0, 1) := by decide +kernel
theorem dJ9_max_f86c9_1 : decode cJ9_max_f86c9 1 = .ok (.lload_n 2, 1) := by decide +kernel
theorem dJ9_max_f86c9_2 : decode cJ9_max_f86c9 2 = .ok (.lcmp, 1) := by decide +kernel
theorem dJ9_max_f86c9_3 : decode cJ9_max_f86c9 3 = .ok (.ifCond .lt 7, 3) := by decide +kernel
theorem dJ9_max_f86c9_6 : decode cJ9_max_f86c9 6 = .ok (.lload_n 0, 1) := by decide +kernel
theorem dJ9_max_f86c9_7 : decode cJ9_max_f86c9 7 = .ok (.goto 4, 3) := by decide +kernel
theorem dJ9_max_f86c9_10 : decode cJ9_max_f86c9 10 = .ok (.lload_n 2, 1) := by decide +kernel
theorem dJ9_max_f86c9_11 : decode cJ9_max_f86c9 11 = .ok (.lreturn, 1) := by decide +kernel
theorem dJ9_min_7cf53_0 : decode cJ9_min_7cf53 0 = .ok (.iload_n 0, 1) := by decide +kernel
theorem dJ9_min_7cf53_1 : decode cJ9_min_7cf53 1 = .ok (.iload_n 1, 1) := by decide +kernel
theorem dJ9_min_7cf53_2 : decode cJ9_min_7cf53 2 = .ok (.if_icmp .gt 7, 3) := by decide +kernel
theorem dJ9_min_7cf53_5 : decode cJ9_min_7cf53 5 = .ok (.iload_n 0, 1) := by decide +kernel
theorem dJ9_min_7cf53_6 : decode cJ9_min_7cf53 6 = .ok (.goto 4, 3) := by decide +kernel
theorem dJ9_min_7cf53_9 : decode cJ9_min_7cf53 9 = .ok (.iload_n 1, 1) := by decide +kernel
theorem dJ9_min_7cf53_10 : decode cJ9_min_7cf53 10 = .ok (.ireturn, 1) := by decide +kernel
theorem dJ9_min_f86c9_0 : decode cJ9_min_f86c9 0 = .ok (.lload_n 0, 1) := by decide +kernel
theorem dJ9_min_f86c9_1 : decode cJ9_min_f86c9 1 = .ok (.lload_n 2, 1) := by decide +kernel
theorem dJ9_min_f86c9_2 : decode cJ9_min_f86c9 2 = .ok (.lcmp, 1) := by decide +kernel
theorem dJ9_min_f86c9_3 : decode cJ9_min_f86c9 3 = .ok (.ifCond .gt 7, 3) := by decide +kernel
theorem dJ9_min_f86c9_6 : decode cJ9_min_f86c9 6 = .ok (.lload_n 0, 1) := by decide +kernel
theorem dJ9_min_f86c9_7 : decode cJ9_min_f86c9 7 = .ok (.goto 4, 3) := by decide +kernel
theorem dJ9_min_f86c9_10 : decode cJ9_min_f86c9 10 = .ok (.lload_n 2, 1) := by decide +kernel
theorem dJ9_min_f86c9_11 : decode cJ9_min_f86c9 11 = .ok (.lreturn, 1) := by decide +kernel
end
section
theorem dX8_init_0 : decode cX8_init 0 = .ok (.aload_n 0, 1) := by decide +kernel
theorem dX8_init_1 : decode cX8_init 1 = .ok (.invokespecial 1, 3) := by decide +kernel
theorem dX8_init_4 : decode cX8_init 4 = .ok (.aload_n 0, 1) := by decide +kernel
theorem dX8_init_5 : decode cX8_init 5 = .ok (.sipush 259, 3) := by decide +kernel
theorem dX8_init_8 : decode cX8_init 8 = .ok (.newarray .int, 2) := by decide +kernel
theorem dX8_init_10 : decode cX8_init 10 = .ok (.putfield 7, 3) := by decide +kernel
theorem dX8_init_13 : decode cX8_init 13 = .ok (.aload_n 0, 1) := by decide +kernel
theorem dX8_init_14 : decode cX8_init 14 = .ok (.sipush 1036, 3) := by decide +kernel
theorem dX8_init_17 : decode cX8_init 17 = .ok (.newarray .int, 2) := by decide +kernel
theorem dX8_init_19 : decode cX8_init 19 = .ok (.putfield 13, 3) := by decide +kernel
theorem dX8_init_22 : decode cX8_init 22 = .ok (.aload_n 0, 1) := by decide +kernel
theorem dX8_init_23 : decode cX8_init 23 = .ok (.sipush 259, 3) := by decide +kernel
theorem dX8_init_26 : decode cX8_init 26 = .ok (.newarray .int, 2) := by decide +kernel
theorem dX8_init_28 : decode cX8_init 28 = .ok (.putfield 16, 3) := by decide +kernel
theorem dX8_init_31 : decode cX8_init 31 = .ok (.aload_n 0, 1) := by decide +kernel
theorem dX8_init_32 : decode cX8_init 32 = .ok (.sipush 259, 3) := by decide +kernel
theorem dX8_init_35 : decode cX8_init 35 = .ok (.newarray .int, 2) := by decide +kernel
theorem dX8_init_37 : decode cX8_init 37 = .ok (.putfield 19, 3) := by decide +kernel
theorem dX8_init_40 : decode cX8_init 40 = .ok (.aload_n 0, 1) := by decide +kernel
theorem dX8_init_41 : decode cX8_init 41 = .ok (.bipush 60, 2) := by decide +kernel
theorem dX8_init_43 : decode cX8_init 43 = .ok (.newarray .char, 2) := by decide +kernel
theorem dX8_init_45 : decode cX8_init 45 = .ok (.putfield 22, 3) := by decide +kernel
theorem dX8_init_48 : decode cX8_init 48 = .ok (.aload_n 0, 1) := by decide +kernel
theorem dX8_init_49 : decode cX8_init 49 = .ok (.iconst 2, 1) := by decide +kernel
theorem dX8_init_50 : decode cX8_init 50 = .ok (.newarray .int, 2) := by decide +kernel
theorem dX8_init_52 : decode cX8_init 52 = .ok (.putfield 26, 3) := by decide +kernel
theorem dX8_init_55 : decode cX8_init 55 = .ok (.aload_n 0, 1) := by decide +kernel
theorem dX8_init_56 : decode cX8_init 56 = .ok (.bipush 9, 2) := by decide +kernel
theorem dX8_init_58 : decode cX8_init 58 = .ok (.newarray .int, 2) := by decide +kernel
theorem dX8_init_60 : decode cX8_init 60 = .ok (.putfield 29, 3) := by decide +kernel
theorem dX8_init_63 : decode cX8_init 63 = .ok (.aload_n 0, 1) := by decide +kernel
theorem dX8_init_64 : decode cX8_init 64 = .ok (.getfield 7, 3) := by decide +kernel
theorem dX8_init_67 : decode cX8_init 67 = .ok (.iconst 2, 1) := by decide +kernel
theorem dX8_init_68 : decode cX8_init 68 = .ok (.ldc 32, 2) := by decide +kernel
theorem dX8_init_70 : decode cX8_init 70 = .ok (.iastore, 1) := by decide +kernel
theorem dX8_init_71 : decode cX8_init 71 = .ok (.aload_n 0, 1) := by decide +kernel
theorem dX8_init_72 : decode cX8_init 72 = .ok (.getfield 7, 3) := by decide +kernel
theorem dX8_init_75 : decode cX8_init 75 = .ok (.iconst 3, 1) := by decide +kernel
theorem dX8_init_76 : decode cX8_init 76 = .ok (.sipush 1000, 3) := by decide +kernel
theorem dX8_init_79 : decode cX8_init 79 = .ok (.iastore, 1) := by decide +kernel
theorem dX8_init_80 : decode cX8_init 80 = .ok (.aload_n 0, 1) := by decide +kernel
theorem dX8_init_81 : decode cX8_init 81 = .ok (.getfield 7, 3) := by decide +kernel
theorem dX8_init_84 : decode cX8_init 84 = .ok (.iconst 4, 1) := by decide +kernel
theorem dX8_init_85 : decode cX8_init 85 = .ok (.sipush 1414, 3) := by decide +kernel
theorem dX8_init_88 : decode cX8_init 88 = .ok (.iastore, 1) := by decide +kernel
theorem dX8_init_89 : decode cX8_init 89 = .ok (.aload_n 0, 1) := by decide +kernel
theorem dX8_init_90 : decode cX8_init 90 = .ok (.getfield 7, 3) := by decide +kernel
theorem dX8_init_93 : decode cX8_init 93 = .ok (.iconst 5, 1) := by decide +kernel
theorem dX8_init_94 : decode cX8_init 94 = .ok (.bipush 20, 2) := by decide +kernel
theorem dX8_init_96 : decode cX8_init 96 = .ok (.iastore, 1) := by decide +kernel
theorem dX8_init_97 : decode cX8_init 97 = .ok (.aload_n 0, 1) := by decide +kernel
theorem dX8_init_98 : decode cX8_init 98 = .ok (.getfield 7, 3) := by decide +kernel
theorem dX8_init_101 : decode cX8_init 101 = .ok (.bipush 6, 2) := by decide +kernel
theorem dX8_init_103 : decode cX8_init 103 = .ok (.sipush 500, 3) := by decide +kernel
theorem dX8_init_106 : decode cX8_init 106 = .ok (.iastore, 1) := by decide +kernel
theorem dX8_init_107 : decode cX8_init 107 = .ok (.aload_n 0, 1) := by decide +kernel
theorem dX8_init_108 : decode cX8_init 108 = .ok (.getfield 7, 3) := by decide +kernel
theorem dX8_init_111 : decode cX8_init 111 = .ok (.bipush 7, 2) := by decide +kernel
theorem dX8_init_113 : decode cX8_init 113 = .ok (.sipush 5000, 3) := by decide +kernel
theorem dX8_init_116 : decode cX8_init 116 = .ok (.iastore, 1) := by decide +kernel
theorem dX8_init_117 : decode cX8_init 117 = .ok (.aload_n 0, 1) := by decide +kernel
theorem dX8_init_118 : decode cX8_init 118 = .ok (.getfield 7, 3) := by decide +kernel
theorem dX8_init_121 : decode cX8_init 121 = .ok (.bipush 8, 2) := by decide +kernel
theorem dX8_init_123 : decode cX8_init 123 = .ok (.iconst 3, 1) := by decide +kernel
theorem dX8_init_124 : decode cX8_init 124 = .ok (.iastore, 1) := by decide +kernel
theorem dX8_init_125 : decode cX8_init 125 = .ok (.aload_n 0, 1) := by decide +kernel
theorem dX8_init_126 : decode cX8_init 126 = .ok (.getfield 7, 3) := by decide +kernel
theorem dX8_init_129 : decode cX8_init 129 = .ok (.bipush 9, 2) := by decide +kernel
theorem dX8_init_131 : decode cX8_init 131 = .ok (.iconst (-1), 1) := by decide +kernel
theorem dX8_init_132 : decode cX8_init 132 = .ok (.iastore, 1) := by decide +kernel
theorem dX8_init_133 : decode cX8_init 133 = .ok (.return_, 1) := by decide +kernel
theorem dX8_in_0 : decode cX8_in 0 = .ok (.iload_n 0, 1) := by decide +kernel
theorem dX8_in_1 : decode cX8_in 1 = .ok (.iload_n 1, 1) := by decide +kernel
theorem dX8_in_2 : decode cX8_in 2 = .ok (.if_icmp .lt 12, 3) := by decide +kernel
theorem dX8_in_5 : decode cX8_in 5 = .ok (.iload_n 0, 1) := by decide +kernel
theorem dX8_in_6 : decode cX8_in 6 = .ok (.iload_n 2, 1) := by decide +kernel
theorem dX8_in_7 : decode cX8_in 7 = .ok (.if_icmp .gt 7, 3) := by decide +kernel
theorem dX8_in_10 : decode cX8_in 10 = .ok (.iconst 1, 1) := by decide +kernel
theorem dX8_in_11 : decode cX8_in 11 = .ok (.goto 4, 3) := by decide +kernel
theorem dX8_in_14 : decode cX8_in 14 = .ok (.iconst 0, 1) := by decide +kernel
theorem dX8_in_15 : decode cX8_in 15 = .ok (.ireturn, 1) := by decide +kernel
theorem dX8_isDegree_0 : decode cX8_isDegree 0 = .ok (.iload_n 0, 1) := by decide +kernel
theorem dX8_isDegree_1 : decode cX8_isDegree 1 = .ok (.ldc 33, 2) := by decide +kernel
theorem dX8_isDegree_3 : decode cX8_isDegree 3 = .ok (.ldc 34, 2) := by decide +kernel
theorem dX8_isDegree_5 : decode cX8_isDegree 5 = .ok (.invokestatic 35, 3) := by decide +kernel
theorem dX8_isDegree_8 : decode cX8_isDegree 8 = .ok (.ireturn, 1) := by decide +kernel
theorem dX8_isTable_0 : decode cX8_isTable 0 = .ok (.iload_n 1, 1) := by decide +kernel
theorem dX8_isTable_1 : decode cX8_isTable 1 = .ok (.iconst 0, 1) := by decide +kernel
theorem dX8_isTable_2 : decode cX8_isTable 2 = .ok (.aload_n 0, 1) := by decide +kernel
theorem dX8_isTable_3 : decode cX8_isTable 3 = .ok (.getfield 7, 3) := by decide +kernel
theorem dX8_isTable_6 : decode cX8_isTable 6 = .ok (.iconst 0, 1) := by decide +kernel
theorem dX8_isTable_7 : decode cX8_isTable 7 = .ok (.iaload, 1) := by decide +kernel
theorem dX8_isTable_8 : decode cX8_isTable 8 = .ok (.iconst 1, 1) := by decide +kernel
theorem dX8_isTable_9 : decode cX8_isTable 9 = .ok (.isub, 1) := by decide +kernel
theorem dX8_isTable_10 : decode cX8_isTable 10 = .ok (.invokestatic 35, 3) := by decide +kernel
theorem dX8_isTable_13 : decode cX8_isTable 13 = .ok (.ireturn, 1) := by decide +kernel
theorem dX8_isSensor_0 : decode cX8_isSensor 0 = .ok (.iload_n 1, 1) := by decide +kernel
theorem dX8_isSensor_1 : decode cX8_isSensor 1 = .ok (.iconst 0, 1) := by decide +kernel
theorem dX8_isSensor_2 : decode cX8_isSensor 2 = .ok (.aload_n 0, 1) := by decide +kernel
theorem dX8_isSensor_3 : decode cX8_isSensor 3 = .ok (.getfield 7, 3) := by decide +kernel
theorem dX8_isSensor_6 : decode cX8_isSensor 6 = .ok (.iconst 1, 1) := by decide +kernel
theorem dX8_isSensor_7 : decode cX8_isSensor 7 = .ok (.iaload, 1) := by decide +kernel
theorem dX8_isSensor_8 : decode cX8_isSensor 8 = .ok (.iconst 1, 1) := by decide +kernel
theorem dX8_isSensor_9 : decode cX8_isSensor 9 = .ok (.isub, 1) := by decide +kernel
theorem dX8_isSensor_10 : decode cX8_isSensor 10 = .ok (.invokestatic 35, 3) := by decide +kernel
theorem dX8_isSensor_13 : decode cX8_isSensor 13 = .ok (.ireturn, 1) := by decide +kernel
theorem dX8_of_0 : decode cX8_of 0 = .ok (.aload_n 0, 1) := by decide +kernel
theorem dX8_of_1 : decode cX8_of 1 = .ok (.getfield 7, 3) := by decide +kernel
theorem dX8_of_4 : decode cX8_of 4 = .ok (.bipush 85, 2) := by decide +kernel
theorem dX8_of_6 : decode cX8_of 6 = .ok (.bipush 29, 2) := by decide +kernel
theorem dX8_of_8 : decode cX8_of 8 = .ok (.iload_n 1, 1) := by decide +kernel
theorem dX8_of_9 : decode cX8_of 9 = .ok (.imul, 1) := by decide +kernel
theorem dX8_of_10 : decode cX8_of 10 = .ok (.iadd, 1) := by decide +kernel
theorem dX8_of_11 : decode cX8_of 11 = .ok (.iload_n 2, 1) := by decide +kernel
theorem dX8_of_12 : decode cX8_of 12 = .ok (.iadd, 1) := by decide +kernel
theorem dX8_of_13 : decode cX8_of 13 = .ok (.iaload, 1) := by decide +kernel
theorem dX8_of_14 : decode cX8_of 14 = .ok (.ireturn, 1) := by decide +kernel
theorem dX8_put_0 : decode cX8_put 0 = .ok (.aload_n 0, 1) := by decide +kernel
theorem dX8_put_1 : decode cX8_put 1 = .ok (.getfield 7, 3) := by decide +kernel
theorem dX8_put_4 : decode cX8_put 4 = .ok (.bipush 85, 2) := by decide +kernel
theorem dX8_put_6 : decode cX8_put 6 = .ok (.bipush 29, 2) := by decide +kernel
theorem dX8_put_8 : decode cX8_put 8 = .ok (.iload_n 1, 1) := by decide +kernel
theorem dX8_put_9 : decode cX8_put 9 = .ok (.imul, 1) := by decide +kernel
theorem dX8_put_10 : decode cX8_put 10 = .ok (.iadd, 1) := by decide +kernel
theorem dX8_put_11 : decode cX8_put 11 = .ok (.iload_n 2, 1) := by decide +kernel
theorem dX8_put_12 : decode cX8_put 12 = .ok (.iadd, 1) := by decide +kernel
theorem dX8_put_13 : decode cX8_put 13 = .ok (.iload_n 3, 1) := by decide +kernel
theorem dX8_put_14 : decode cX8_put 14 = .ok (.iastore, 1) := by decide +kernel
theorem dX8_put_15 : decode cX8_put 15 = .ok (.return_, 1) := by decide +kernel
theorem dX8_isWire_0 : decode cX8_isWire 0 = .ok (.aload_n 0, 1) := by decide +kernel
theorem dX8_isWire_1 : decode cX8_isWire 1 = .ok (.iload_n 1, 1) := by decide +kernel
theorem dX8_isWire_2 : decode cX8_isWire 2 = .ok (.invokevirtual 39, 3) := by decide +kernel
theorem dX8_isWire_5 : decode cX8_isWire 5 = .ok (.ifCond .eq 23, 3) := by decide +kernel
theorem dX8_isWire_8 : decode cX8_isWire 8 = .ok (.iload_n 2, 1) := by decide +kernel
theorem dX8_isWire_9 : decode cX8_isWire 9 = .ok (.iconst 0, 1) := by decide +kernel
theorem dX8_isWire_10 : decode cX8_isWire 10 = .ok (.aload_n 0, 1) := by decide +kernel
theorem dX8_isWire_11 : decode cX8_isWire 11 = .ok (.iload_n 1, 1) := by decide +kernel
theorem dX8_isWire_12 : decode cX8_isWire 12 = .ok (.iconst 1, 1) := by decide +kernel
theorem dX8_isWire_13 : decode cX8_isWire 13 = .ok (.invokevirtual 43, 3) := by decide +kernel
theorem dX8_isWire_16 : decode cX8_isWire 16 = .ok (.iconst 1, 1) := by decide +kernel
theorem dX8_isWire_17 : decode cX8_isWire 17 = .ok (.isub, 1) := by decide +kernel
theorem dX8_isWire_18 : decode cX8_isWire 18 = .ok (.invokestatic 35, 3) := by decide +kernel
theorem dX8_isWire_21 : decode cX8_isWire 21 = .ok (.ifCond .eq 7, 3) := by decide +kernel
theorem dX8_isWire_24 : decode cX8_isWire 24 = .ok (.iconst 1, 1) := by decide +kernel
theorem dX8_isWire_25 : decode cX8_isWire 25 = .ok (.goto 4, 3) := by decide +kernel
theorem dX8_isWire_28 : decode cX8_isWire 28 = .ok (.iconst 0, 1) := by decide +kernel
theorem dX8_isWire_29 : decode cX8_isWire 29 = .ok (.ireturn, 1) := by decide +kernel
theorem dX8_keeps_0 : decode cX8_keeps 0 = .ok (.iconst 0, 1) := by decide +kernel
theorem dX8_keeps_1 : decode cX8_keeps 1 = .ok (.istore_n 1, 1) := by decide +kernel
theorem dX8_keeps_2 : decode cX8_keeps 2 = .ok (.iload_n 1, 1) := by decide +kernel
theorem dX8_keeps_3 : decode cX8_keeps 3 = .ok (.sipush 259, 3) := by decide +kernel
theorem dX8_keeps_6 : decode cX8_keeps 6 = .ok (.if_icmp .ge 21, 3) := by decide +kernel
theorem dX8_keeps_9 : decode cX8_keeps 9 = .ok (.aload_n 0, 1) := by decide +kernel
theorem dX8_keeps_10 : decode cX8_keeps 10 = .ok (.getfield 19, 3) := by decide +kernel
theorem dX8_keeps_13 : decode cX8_keeps 13 = .ok (.iload_n 1, 1) := by decide +kernel
theorem dX8_keeps_14 : decode cX8_keeps 14 = .ok (.aload_n 0, 1) := by decide +kernel
theorem dX8_keeps_15 : decode cX8_keeps 15 = .ok (.getfield 7, 3) := by decide +kernel
theorem dX8_keeps_18 : decode cX8_keeps 18 = .ok (.iload_n 1, 1) := by decide +kernel
theorem dX8_keeps_19 : decode cX8_keeps 19 = .ok (.iaload, 1) := by decide +kernel
theorem dX8_keeps_20 : decode cX8_keeps 20 = .ok (.iastore, 1) := by decide +kernel
theorem dX8_keeps_21 : decode cX8_keeps 21 = .ok (.iinc 1 1, 3) := by decide +kernel
theorem dX8_keeps_24 : decode cX8_keeps 24 = .ok (.goto (-22), 3) := by decide +kernel
theorem dX8_keeps_27 : decode cX8_keeps 27 = .ok (.return_, 1) := by decide +kernel
theorem dX8_acted_0 : decode cX8_acted 0 = .ok (.iload_n 1, 1) := by decide +kernel
theorem dX8_acted_1 : decode cX8_acted 1 = .ok (.ldc 47, 2) := by decide +kernel
theorem dX8_acted_3 : decode cX8_acted 3 = .ok (.if_icmp .le 98, 3) := by decide +kernel
theorem dX8_acted_6 : decode cX8_acted 6 = .ok (.aload_n 0, 1) := by decide +kernel
theorem dX8_acted_7 : decode cX8_acted 7 = .ok (.getfield 48, 3) := by decide +kernel
theorem dX8_acted_10 : decode cX8_acted 10 = .ok (.iconst 4, 1) := by decide +kernel
theorem dX8_acted_11 : decode cX8_acted 11 = .ok (.if_icmp .ne 44, 3) := by decide +kernel
theorem dX8_acted_14 : decode cX8_acted 14 = .ok (.iconst 0, 1) := by decide +kernel
theorem dX8_acted_15 : decode cX8_acted 15 = .ok (.istore_n 2, 1) := by decide +kernel
theorem dX8_acted_16 : decode cX8_acted 16 = .ok (.iload_n 2, 1) := by decide +kernel
theorem dX8_acted_17 : decode cX8_acted 17 = .ok (.sipush 777, 3) := by decide +kernel
theorem dX8_acted_20 : decode cX8_acted 20 = .ok (.if_icmp .ge 25, 3) := by decide +kernel
theorem dX8_acted_23 : decode cX8_acted 23 = .ok (.aload_n 0, 1) := by decide +kernel
theorem dX8_acted_24 : decode cX8_acted 24 = .ok (.getfield 13, 3) := by decide +kernel
theorem dX8_acted_27 : decode cX8_acted 27 = .ok (.iload_n 2, 1) := by decide +kernel
theorem dX8_acted_28 : decode cX8_acted 28 = .ok (.aload_n 0, 1) := by decide +kernel
theorem dX8_acted_29 : decode cX8_acted 29 = .ok (.getfield 13, 3) := by decide +kernel
theorem dX8_acted_32 : decode cX8_acted 32 = .ok (.iload_n 2, 1) := by decide +kernel
theorem dX8_acted_33 : decode cX8_acted 33 = .ok (.sipush 259, 3) := by decide +kernel
theorem dX8_acted_36 : decode cX8_acted 36 = .ok (.iadd, 1) := by decide +kernel
theorem dX8_acted_37 : decode cX8_acted 37 = .ok (.iaload, 1) := by decide +kernel
theorem dX8_acted_38 : decode cX8_acted 38 = .ok (.iastore, 1) := by decide +kernel
theorem dX8_acted_39 : decode cX8_acted 39 = .ok (.iinc 2 1, 3) := by decide +kernel
theorem dX8_acted_42 : decode cX8_acted 42 = .ok (.goto (-26), 3) := by decide +kernel
theorem dX8_acted_45 : decode cX8_acted 45 = .ok (.aload_n 0, 1) := by decide +kernel
theorem dX8_acted_46 : decode cX8_acted 46 = .ok (.dup, 1) := by decide +kernel
theorem dX8_acted_47 : decode cX8_acted 47 = .ok (.getfield 48, 3) := by decide +kernel
theorem dX8_acted_50 : decode cX8_acted 50 = .ok (.iconst 1, 1) := by decide +kernel
theorem dX8_acted_51 : decode cX8_acted 51 = .ok (.isub, 1) := by decide +kernel
theorem dX8_acted_52 : decode cX8_acted 52 = .ok (.putfield 48, 3) := by decide +kernel
theorem dX8_acted_55 : decode cX8_acted 55 = .ok (.iconst 0, 1) := by decide +kernel
theorem dX8_acted_56 : decode cX8_acted 56 = .ok (.istore_n 2, 1) := by decide +kernel
theorem dX8_acted_57 : decode cX8_acted 57 = .ok (.iload_n 2, 1) := by decide +kernel
theorem dX8_acted_58 : decode cX8_acted 58 = .ok (.sipush 259, 3) := by decide +kernel
theorem dX8_acted_61 : decode cX8_acted 61 = .ok (.if_icmp .ge 30, 3) := by decide +kernel
theorem dX8_acted_64 : decode cX8_acted 64 = .ok (.aload_n 0, 1) := by decide +kernel
theorem dX8_acted_65 : decode cX8_acted 65 = .ok (.getfield 13, 3) := by decide +kernel
theorem dX8_acted_68 : decode cX8_acted 68 = .ok (.sipush 259, 3) := by decide +kernel
theorem dX8_acted_71 : decode cX8_acted 71 = .ok (.aload_n 0, 1) := by decide +kernel
theorem dX8_acted_72 : decode cX8_acted 72 = .ok (.getfield 48, 3) := by decide +kernel
theorem dX8_acted_75 : decode cX8_acted 75 = .ok (.imul, 1) := by decide +kernel
theorem dX8_acted_76 : decode cX8_acted 76 = .ok (.iload_n 2, 1) := by decide +kernel
theorem dX8_acted_77 : decode cX8_acted 77 = .ok (.iadd, 1) := by decide +kernel
theorem dX8_acted_78 : decode cX8_acted 78 = .ok (.aload_n 0, 1) := by decide +kernel
theorem dX8_acted_79 : decode cX8_acted 79 = .ok (.getfield 19, 3) := by decide +kernel
theorem dX8_acted_82 : decode cX8_acted 82 = .ok (.iload_n 2, 1) := by decide +kernel
theorem dX8_acted_83 : decode cX8_acted 83 = .ok (.iaload, 1) := by decide +kernel
theorem dX8_acted_84 : decode cX8_acted 84 = .ok (.iastore, 1) := by decide +kernel
theorem dX8_acted_85 : decode cX8_acted 85 = .ok (.iinc 2 1, 3) := by decide +kernel
theorem dX8_acted_88 : decode cX8_acted 88 = .ok (.goto (-31), 3) := by decide +kernel
theorem dX8_acted_91 : decode cX8_acted 91 = .ok (.aload_n 0, 1) := by decide +kernel
theorem dX8_acted_92 : decode cX8_acted 92 = .ok (.dup, 1) := by decide +kernel
theorem dX8_acted_93 : decode cX8_acted 93 = .ok (.getfield 48, 3) := by decide +kernel
theorem dX8_acted_96 : decode cX8_acted 96 = .ok (.iconst 1, 1) := by decide +kernel
theorem dX8_acted_97 : decode cX8_acted 97 = .ok (.iadd, 1) := by decide +kernel
theorem dX8_acted_98 : decode cX8_acted 98 = .ok (.putfield 48, 3) := by decide +kernel
theorem dX8_acted_101 : decode cX8_acted 101 = .ok (.iload_n 1, 1) := by decide +kernel
theorem dX8_acted_102 : decode cX8_acted 102 = .ok (.ireturn, 1) := by decide +kernel
theorem dX8_nodes_0 : decode cX8_nodes 0 = .ok (.aload_n 0, 1) := by decide +kernel
theorem dX8_nodes_1 : decode cX8_nodes 1 = .ok (.getfield 7, 3) := by decide +kernel
theorem dX8_nodes_4 : decode cX8_nodes 4 = .ok (.bipush 10, 2) := by decide +kernel
theorem dX8_nodes_6 : decode cX8_nodes 6 = .ok (.bipush 25, 2) := by decide +kernel
theorem dX8_nodes_8 : decode cX8_nodes 8 = .ok (.iload_n 1, 1) := by decide +kernel
theorem dX8_nodes_9 : decode cX8_nodes 9 = .ok (.imul, 1) := by decide +kernel
theorem dX8_nodes_10 : decode cX8_nodes 10 = .ok (.iadd, 1) := by decide +kernel
theorem dX8_nodes_11 : decode cX8_nodes 11 = .ok (.iaload, 1) := by decide +kernel
theorem dX8_nodes_12 : decode cX8_nodes 12 = .ok (.ireturn, 1) := by decide +kernel
theorem dX8_degree_0 : decode cX8_degree 0 = .ok (.aload_n 0, 1) := by decide +kernel
theorem dX8_degree_1 : decode cX8_degree 1 = .ok (.getfield 7, 3) := by decide +kernel
theorem dX8_degree_4 : decode cX8_degree 4 = .ok (.bipush 10, 2) := by decide +kernel
theorem dX8_degree_6 : decode cX8_degree 6 = .ok (.bipush 25, 2) := by decide +kernel
theorem dX8_degree_8 : decode cX8_degree 8 = .ok (.iload_n 1, 1) := by decide +kernel
theorem dX8_degree_9 : decode cX8_degree 9 = .ok (.imul, 1) := by decide +kernel
theorem dX8_degree_10 : decode cX8_degree 10 = .ok (.iadd, 1) := by decide +kernel
theorem dX8_degree_11 : decode cX8_degree 11 = .ok (.iconst 1, 1) := by decide +kernel
theorem dX8_degree_12 : decode cX8_degree 12 = .ok (.iadd, 1) := by decide +kernel
theorem dX8_degree_13 : decode cX8_degree 13 = .ok (.iload_n 2, 1) := by decide +kernel
theorem dX8_degree_14 : decode cX8_degree 14 = .ok (.iadd, 1) := by decide +kernel
theorem dX8_degree_15 : decode cX8_degree 15 = .ok (.iaload, 1) := by decide +kernel
theorem dX8_degree_16 : decode cX8_degree 16 = .ok (.ireturn, 1) := by decide +kernel
theorem dX8_ratioOf_0 : decode cX8_ratioOf 0 = .ok (.aload_n 0, 1) := by decide +kernel
theorem dX8_ratioOf_1 : decode cX8_ratioOf 1 = .ok (.getfield 7, 3) := by decide +kernel
theorem dX8_ratioOf_4 : decode cX8_ratioOf 4 = .ok (.bipush 10, 2) := by decide +kernel
theorem dX8_ratioOf_6 : decode cX8_ratioOf 6 = .ok (.bipush 25, 2) := by decide +kernel
theorem dX8_ratioOf_8 : decode cX8_ratioOf 8 = .ok (.iload_n 1, 1) := by decide +kernel
theorem dX8_ratioOf_9 : decode cX8_ratioOf 9 = .ok (.imul, 1) := by decide +kernel
theorem dX8_ratioOf_10 : decode cX8_ratioOf 10 = .ok (.iadd, 1) := by decide +kernel
theorem dX8_ratioOf_11 : decode cX8_ratioOf 11 = .ok (.bipush 13, 2) := by decide +kernel
theorem dX8_ratioOf_13 : decode cX8_ratioOf 13 = .ok (.iadd, 1) := by decide +kernel
theorem dX8_ratioOf_14 : decode cX8_ratioOf 14 = .ok (.iload_n 2, 1) := by decide +kernel
theorem dX8_ratioOf_15 : decode cX8_ratioOf 15 = .ok (.iadd, 1) := by decide +kernel
theorem dX8_ratioOf_16 : decode cX8_ratioOf 16 = .ok (.iaload, 1) := by decide +kernel
theorem dX8_ratioOf_17 : decode cX8_ratioOf 17 = .ok (.ireturn, 1) := by decide +kernel
theorem dX8_first_0 : decode cX8_first 0 = .ok (.aload_n 0, 1) := by decide +kernel
theorem dX8_first_1 : decode cX8_first 1 = .ok (.iload_n 1, 1) := by decide +kernel
theorem dX8_first_2 : decode cX8_first 2 = .ok (.iconst 0, 1) := by decide +kernel
theorem dX8_first_3 : decode cX8_first 3 = .ok (.invokevirtual 52, 3) := by decide +kernel
theorem dX8_first_6 : decode cX8_first 6 = .ok (.ireturn, 1) := by decide +kernel
theorem dX8_last_0 : decode cX8_last 0 = .ok (.aload_n 0, 1) := by decide +kernel
theorem dX8_last_1 : decode cX8_last 1 = .ok (.iload_n 1, 1) := by decide +kernel
theorem dX8_last_2 : decode cX8_last 2 = .ok (.aload_n 0, 1) := by decide +kernel
theorem dX8_last_3 : decode cX8_last 3 = .ok (.iload_n 1, 1) := by decide +kernel
theorem dX8_last_4 : decode cX8_last 4 = .ok (.invokevirtual 55, 3) := by decide +kernel
theorem dX8_last_7 : decode cX8_last 7 = .ok (.iconst 1, 1) := by decide +kernel
theorem dX8_last_8 : decode cX8_last 8 = .ok (.isub, 1) := by decide +kernel
theorem dX8_last_9 : decode cX8_last 9 = .ok (.invokevirtual 52, 3) := by decide +kernel
theorem dX8_last_12 : decode cX8_last 12 = .ok (.ireturn, 1) := by decide +kernel
theorem dX8_goes_0 : decode cX8_goes 0 = .ok (.aload_n 0, 1) := by decide +kernel
theorem dX8_goes_1 : decode cX8_goes 1 = .ok (.iload_n 1, 1) := by decide +kernel
theorem dX8_goes_2 : decode cX8_goes 2 = .ok (.invokevirtual 55, 3) := by decide +kernel
theorem dX8_goes_5 : decode cX8_goes 5 = .ok (.iconst 1, 1) := by decide +kernel
theorem dX8_goes_6 : decode cX8_goes 6 = .ok (.if_icmp .le 24, 3) := by decide +kernel
theorem dX8_goes_9 : decode cX8_goes 9 = .ok (.iload_n 2, 1) := by decide +kernel
theorem dX8_goes_10 : decode cX8_goes 10 = .ok (.aload_n 0, 1) := by decide +kernel
theorem dX8_goes_11 : decode cX8_goes 11 = .ok (.iload_n 1, 1) := by decide +kernel
theorem dX8_goes_12 : decode cX8_goes 12 = .ok (.invokevirtual 59, 3) := by decide +kernel
theorem dX8_goes_15 : decode cX8_goes 15 = .ok (.aload_n 0, 1) := by decide +kernel
theorem dX8_goes_16 : decode cX8_goes 16 = .ok (.iload_n 1, 1) := by decide +kernel
theorem dX8_goes_17 : decode cX8_goes 17 = .ok (.invokevirtual 62, 3) := by decide +kernel
theorem dX8_goes_20 : decode cX8_goes 20 = .ok (.invokestatic 35, 3) := by decide +kernel
theorem dX8_goes_23 : decode cX8_goes 23 = .ok (.ifCond .eq 7, 3) := by decide +kernel
theorem dX8_goes_26 : decode cX8_goes 26 = .ok (.iconst 1, 1) := by decide +kernel
theorem dX8_goes_27 : decode cX8_goes 27 = .ok (.goto 4, 3) := by decide +kernel
theorem dX8_goes_30 : decode cX8_goes 30 = .ok (.iconst 0, 1) := by decide +kernel
theorem dX8_goes_31 : decode cX8_goes 31 = .ok (.ireturn, 1) := by decide +kernel
theorem dX8_ratioAt_0 : decode cX8_ratioAt 0 = .ok (.iconst 0, 1) := by decide +kernel
theorem dX8_ratioAt_1 : decode cX8_ratioAt 1 = .ok (.istore_n 3, 1) := by decide +kernel
theorem dX8_ratioAt_2 : decode cX8_ratioAt 2 = .ok (.aload_n 0, 1) := by decide +kernel
theorem dX8_ratioAt_3 : decode cX8_ratioAt 3 = .ok (.iload_n 1, 1) := by decide +kernel
theorem dX8_ratioAt_4 : decode cX8_ratioAt 4 = .ok (.iload_n 3, 1) := by decide +kernel
theorem dX8_ratioAt_5 : decode cX8_ratioAt 5 = .ok (.iconst 1, 1) := by decide +kernel
theorem dX8_ratioAt_6 : decode cX8_ratioAt 6 = .ok (.iadd, 1) := by decide +kernel
theorem dX8_ratioAt_7 : decode cX8_ratioAt 7 = .ok (.invokevirtual 52, 3) := by decide +kernel
theorem dX8_ratioAt_10 : decode cX8_ratioAt 10 = .ok (.iload_n 2, 1) := by decide +kernel
theorem dX8_ratioAt_11 : decode cX8_ratioAt 11 = .ok (.if_icmp .ge 9, 3) := by decide +kernel
theorem dX8_ratioAt_14 : decode cX8_ratioAt 14 = .ok (.iinc 3 1, 3) := by decide +kernel
theorem dX8_ratioAt_17 : decode cX8_ratioAt 17 = .ok (.goto (-15), 3) := by decide +kernel
theorem dX8_ratioAt_20 : decode cX8_ratioAt 20 = .ok (.aload_n 0, 1) := by decide +kernel
theorem dX8_ratioAt_21 : decode cX8_ratioAt 21 = .ok (.iload_n 1, 1) := by decide +kernel
theorem dX8_ratioAt_22 : decode cX8_ratioAt 22 = .ok (.iload_n 3, 1) := by decide +kernel
theorem dX8_ratioAt_23 : decode cX8_ratioAt 23 = .ok (.iconst 1, 1) := by decide +kernel
theorem dX8_ratioAt_24 : decode cX8_ratioAt 24 = .ok (.iadd, 1) := by decide +kernel
theorem dX8_ratioAt_25 : decode cX8_ratioAt 25 = .ok (.invokevirtual 52, 3) := by decide +kernel
theorem dX8_ratioAt_28 : decode cX8_ratioAt 28 = .ok (.iload_n 2, 1) := by decide +kernel
theorem dX8_ratioAt_29 : decode cX8_ratioAt 29 = .ok (.if_icmp .ne 12, 3) := by decide +kernel
theorem dX8_ratioAt_32 : decode cX8_ratioAt 32 = .ok (.aload_n 0, 1) := by decide +kernel
theorem dX8_ratioAt_33 : decode cX8_ratioAt 33 = .ok (.iload_n 1, 1) := by decide +kernel
theorem dX8_ratioAt_34 : decode cX8_ratioAt 34 = .ok (.iload_n 3, 1) := by decide +kernel
theorem dX8_ratioAt_35 : decode cX8_ratioAt 35 = .ok (.iconst 1, 1) := by decide +kernel
theorem dX8_ratioAt_36 : decode cX8_ratioAt 36 = .ok (.iadd, 1) := by decide +kernel
theorem dX8_ratioAt_37 : decode cX8_ratioAt 37 = .ok (.invokevirtual 65, 3) := by decide +kernel
theorem dX8_ratioAt_40 : decode cX8_ratioAt 40 = .ok (.ireturn, 1) := by decide +kernel
theorem dX8_ratioAt_41 : decode cX8_ratioAt 41 = .ok (.aload_n 0, 1) := by decide +kernel
theorem dX8_ratioAt_42 : decode cX8_ratioAt 42 = .ok (.iload_n 1, 1) := by decide +kernel
theorem dX8_ratioAt_43 : decode cX8_ratioAt 43 = .ok (.iload_n 3, 1) := by decide +kernel
theorem dX8_ratioAt_44 : decode cX8_ratioAt 44 = .ok (.iconst 1, 1) := by decide +kernel
theorem dX8_ratioAt_45 : decode cX8_ratioAt 45 = .ok (.iadd, 1) := by decide +kernel
theorem dX8_ratioAt_46 : decode cX8_ratioAt 46 = .ok (.invokevirtual 65, 3) := by decide +kernel
theorem dX8_ratioAt_49 : decode cX8_ratioAt 49 = .ok (.aload_n 0, 1) := by decide +kernel
theorem dX8_ratioAt_50 : decode cX8_ratioAt 50 = .ok (.iload_n 1, 1) := by decide +kernel
theorem dX8_ratioAt_51 : decode cX8_ratioAt 51 = .ok (.iload_n 3, 1) := by decide +kernel
theorem dX8_ratioAt_52 : decode cX8_ratioAt 52 = .ok (.invokevirtual 65, 3) := by decide +kernel
theorem dX8_ratioAt_55 : decode cX8_ratioAt 55 = .ok (.isub, 1) := by decide +kernel
theorem dX8_ratioAt_56 : decode cX8_ratioAt 56 = .ok (.i2l, 1) := by decide +kernel
theorem dX8_ratioAt_57 : decode cX8_ratioAt 57 = .ok (.iload_n 2, 1) := by decide +kernel
theorem dX8_ratioAt_58 : decode cX8_ratioAt 58 = .ok (.aload_n 0, 1) := by decide +kernel
theorem dX8_ratioAt_59 : decode cX8_ratioAt 59 = .ok (.iload_n 1, 1) := by decide +kernel
theorem dX8_ratioAt_60 : decode cX8_ratioAt 60 = .ok (.iload_n 3, 1) := by decide +kernel
theorem dX8_ratioAt_61 : decode cX8_ratioAt 61 = .ok (.invokevirtual 52, 3) := by decide +kernel
theorem dX8_ratioAt_64 : decode cX8_ratioAt 64 = .ok (.isub, 1) := by decide +kernel
theorem dX8_ratioAt_65 : decode cX8_ratioAt 65 = .ok (.i2l, 1) := by decide +kernel
theorem dX8_ratioAt_66 : decode cX8_ratioAt 66 = .ok (.lmul, 1) := by decide +kernel
theorem dX8_ratioAt_67 : decode cX8_ratioAt 67 = .ok (.aload_n 0, 1) := by decide +kernel
theorem dX8_ratioAt_68 : decode cX8_ratioAt 68 = .ok (.iload_n 1, 1) := by decide +kernel
theorem dX8_ratioAt_69 : decode cX8_ratioAt 69 = .ok (.iload_n 3, 1) := by decide +kernel
theorem dX8_ratioAt_70 : decode cX8_ratioAt 70 = .ok (.iconst 1, 1) := by decide +kernel
theorem dX8_ratioAt_71 : decode cX8_ratioAt 71 = .ok (.iadd, 1) := by decide +kernel
theorem dX8_ratioAt_72 : decode cX8_ratioAt 72 = .ok (.invokevirtual 52, 3) := by decide +kernel
theorem dX8_ratioAt_75 : decode cX8_ratioAt 75 = .ok (.aload_n 0, 1) := by decide +kernel
theorem dX8_ratioAt_76 : decode cX8_ratioAt 76 = .ok (.iload_n 1, 1) := by decide +kernel
theorem dX8_ratioAt_77 : decode cX8_ratioAt 77 = .ok (.iload_n 3, 1) := by decide +kernel
theorem dX8_ratioAt_78 : decode cX8_ratioAt 78 = .ok (.invokevirtual 52, 3) := by decide +kernel
theorem dX8_ratioAt_81 : decode cX8_ratioAt 81 = .ok (.isub, 1) := by decide +kernel
theorem dX8_ratioAt_82 : decode cX8_ratioAt 82 = .ok (.i2l, 1) := by decide +kernel
theorem dX8_ratioAt_83 : decode cX8_ratioAt 83 = .ok (.ldiv, 1) := by decide +kernel
theorem dX8_ratioAt_84 : decode cX8_ratioAt 84 = .ok (.lstore 4, 2) := by decide +kernel
theorem dX8_ratioAt_86 : decode cX8_ratioAt 86 = .ok (.aload_n 0, 1) := by decide +kernel
theorem dX8_ratioAt_87 : decode cX8_ratioAt 87 = .ok (.iload_n 1, 1) := by decide +kernel
theorem dX8_ratioAt_88 : decode cX8_ratioAt 88 = .ok (.iload_n 3, 1) := by decide +kernel
theorem dX8_ratioAt_89 : decode cX8_ratioAt 89 = .ok (.invokevirtual 65, 3) := by decide +kernel
theorem dX8_ratioAt_92 : decode cX8_ratioAt 92 = .ok (.lload 4, 2) := by decide +kernel
theorem dX8_ratioAt_94 : decode cX8_ratioAt 94 = .ok (.l2i, 1) := by decide +kernel
theorem dX8_ratioAt_95 : decode cX8_ratioAt 95 = .ok (.iadd, 1) := by decide +kernel
theorem dX8_ratioAt_96 : decode cX8_ratioAt 96 = .ok (.ireturn, 1) := by decide +kernel
theorem dX8_inverseOf_0 : decode cX8_inverseOf 0 = .ok (.aload_n 0, 1) := by decide +kernel
theorem dX8_inverseOf_1 : decode cX8_inverseOf 1 = .ok (.iload_n 1, 1) := by decide +kernel
theorem dX8_inverseOf_2 : decode cX8_inverseOf 2 = .ok (.invokevirtual 55, 3) := by decide +kernel
theorem dX8_inverseOf_5 : decode cX8_inverseOf 5 = .ok (.iconst 2, 1) := by decide +kernel
theorem dX8_inverseOf_6 : decode cX8_inverseOf 6 = .ok (.if_icmp .lt 33, 3) := by decide +kernel
theorem dX8_inverseOf_9 : decode cX8_inverseOf 9 = .ok (.lload_n 2, 1) := by decide +kernel
theorem dX8_inverseOf_10 : decode cX8_inverseOf 10 = .ok (.aload_n 0, 1) := by decide +kernel
theorem dX8_inverseOf_11 : decode cX8_inverseOf 11 = .ok (.iload_n 1, 1) := by decide +kernel
theorem dX8_inverseOf_12 : decode cX8_inverseOf 12 = .ok (.iconst 0, 1) := by decide +kernel
theorem dX8_inverseOf_13 : decode cX8_inverseOf 13 = .ok (.invokevirtual 65, 3) := by decide +kernel
theorem dX8_inverseOf_16 : decode cX8_inverseOf 16 = .ok (.i2l, 1) := by decide +kernel
theorem dX8_inverseOf_17 : decode cX8_inverseOf 17 = .ok (.lcmp, 1) := by decide +kernel
theorem dX8_inverseOf_18 : decode cX8_inverseOf 18 = .ok (.ifCond .lt 21, 3) := by decide +kernel
theorem dX8_inverseOf_21 : decode cX8_inverseOf 21 = .ok (.lload_n 2, 1) := by decide +kernel
theorem dX8_inverseOf_22 : decode cX8_inverseOf 22 = .ok (.aload_n 0, 1) := by decide +kernel
theorem dX8_inverseOf_23 : decode cX8_inverseOf 23 = .ok (.iload_n 1, 1) := by decide +kernel
theorem dX8_inverseOf_24 : decode cX8_inverseOf 24 = .ok (.aload_n 0, 1) := by decide +kernel
theorem dX8_inverseOf_25 : decode cX8_inverseOf 25 = .ok (.iload_n 1, 1) := by decide +kernel
theorem dX8_inverseOf_26 : decode cX8_inverseOf 26 = .ok (.invokevirtual 55, 3) := by decide +kernel
theorem dX8_inverseOf_29 : decode cX8_inverseOf 29 = .ok (.iconst 1, 1) := by decide +kernel
theorem dX8_inverseOf_30 : decode cX8_inverseOf 30 = .ok (.isub, 1) := by decide +kernel
theorem dX8_inverseOf_31 : decode cX8_inverseOf 31 = .ok (.invokevirtual 65, 3) := by decide +kernel
theorem dX8_inverseOf_34 : decode cX8_inverseOf 34 = .ok (.i2l, 1) := by decide +kernel
theorem dX8_inverseOf_35 : decode cX8_inverseOf 35 = .ok (.lcmp, 1) := by decide +kernel
theorem dX8_inverseOf_36 : decode cX8_inverseOf 36 = .ok (.ifCond .le 6, 3) := by decide +kernel
theorem dX8_inverseOf_39 : decode cX8_inverseOf 39 = .ok (.ldc 68, 2) := by decide +kernel
theorem dX8_inverseOf_41 : decode cX8_inverseOf 41 = .ok (.ireturn, 1) := by decide +kernel
theorem dX8_inverseOf_42 : decode cX8_inverseOf 42 = .ok (.aload_n 0, 1) := by decide +kernel
theorem dX8_inverseOf_43 : decode cX8_inverseOf 43 = .ok (.iload_n 1, 1) := by decide +kernel
theorem dX8_inverseOf_44 : decode cX8_inverseOf 44 = .ok (.invokevirtual 59, 3) := by decide +kernel
theorem dX8_inverseOf_47 : decode cX8_inverseOf 47 = .ok (.istore 4, 2) := by decide +kernel
theorem dX8_inverseOf_49 : decode cX8_inverseOf 49 = .ok (.aload_n 0, 1) := by decide +kernel
theorem dX8_inverseOf_50 : decode cX8_inverseOf 50 = .ok (.iload_n 1, 1) := by decide +kernel
theorem dX8_inverseOf_51 : decode cX8_inverseOf 51 = .ok (.invokevirtual 62, 3) := by decide +kernel
theorem dX8_inverseOf_54 : decode cX8_inverseOf 54 = .ok (.istore 5, 2) := by decide +kernel
theorem dX8_inverseOf_56 : decode cX8_inverseOf 56 = .ok (.iload 4, 2) := by decide +kernel
theorem dX8_inverseOf_58 : decode cX8_inverseOf 58 = .ok (.iload 5, 2) := by decide +kernel
theorem dX8_inverseOf_60 : decode cX8_inverseOf 60 = .ok (.if_icmp .ge 44, 3) := by decide +kernel
theorem dX8_inverseOf_63 : decode cX8_inverseOf 63 = .ok (.iload 4, 2) := by decide +kernel
theorem dX8_inverseOf_65 : decode cX8_inverseOf 65 = .ok (.iload 5, 2) := by decide +kernel
theorem dX8_inverseOf_67 : decode cX8_inverseOf 67 = .ok (.iload 4, 2) := by decide +kernel
theorem dX8_inverseOf_69 : decode cX8_inverseOf 69 = .ok (.isub, 1) := by decide +kernel
theorem dX8_inverseOf_70 : decode cX8_inverseOf 70 = .ok (.iconst 2, 1) := by decide +kernel
theorem dX8_inverseOf_71 : decode cX8_inverseOf 71 = .ok (.idiv, 1) := by decide +kernel
theorem dX8_inverseOf_72 : decode cX8_inverseOf 72 = .ok (.iadd, 1) := by decide +kernel
theorem dX8_inverseOf_73 : decode cX8_inverseOf 73 = .ok (.istore 6, 2) := by decide +kernel
theorem dX8_inverseOf_75 : decode cX8_inverseOf 75 = .ok (.aload_n 0, 1) := by decide +kernel
theorem dX8_inverseOf_76 : decode cX8_inverseOf 76 = .ok (.iload_n 1, 1) := by decide +kernel
theorem dX8_inverseOf_77 : decode cX8_inverseOf 77 = .ok (.iload 6, 2) := by decide +kernel
theorem dX8_inverseOf_79 : decode cX8_inverseOf 79 = .ok (.invokevirtual 69, 3) := by decide +kernel
theorem dX8_inverseOf_82 : decode cX8_inverseOf 82 = .ok (.i2l, 1) := by decide +kernel
theorem dX8_inverseOf_83 : decode cX8_inverseOf 83 = .ok (.lload_n 2, 1) := by decide +kernel
theorem dX8_inverseOf_84 : decode cX8_inverseOf 84 = .ok (.lcmp, 1) := by decide +kernel
theorem dX8_inverseOf_85 : decode cX8_inverseOf 85 = .ok (.ifCond .lt 10, 3) := by decide +kernel
theorem dX8_inverseOf_88 : decode cX8_inverseOf 88 = .ok (.iload 6, 2) := by decide +kernel
theorem dX8_inverseOf_90 : decode cX8_inverseOf 90 = .ok (.istore 5, 2) := by decide +kernel
theorem dX8_inverseOf_92 : decode cX8_inverseOf 92 = .ok (.goto 9, 3) := by decide +kernel
theorem dX8_inverseOf_95 : decode cX8_inverseOf 95 = .ok (.iload 6, 2) := by decide +kernel
theorem dX8_inverseOf_97 : decode cX8_inverseOf 97 = .ok (.iconst 1, 1) := by decide +kernel
theorem dX8_inverseOf_98 : decode cX8_inverseOf 98 = .ok (.iadd, 1) := by decide +kernel
theorem dX8_inverseOf_99 : decode cX8_inverseOf 99 = .ok (.istore 4, 2) := by decide +kernel
theorem dX8_inverseOf_101 : decode cX8_inverseOf 101 = .ok (.goto (-45), 3) := by decide +kernel
theorem dX8_inverseOf_104 : decode cX8_inverseOf 104 = .ok (.iload 4, 2) := by decide +kernel
theorem dX8_inverseOf_106 : decode cX8_inverseOf 106 = .ok (.ireturn, 1) := by decide +kernel
theorem dX8_table_0 : decode cX8_table 0 = .ok (.aload_n 0, 1) := by decide +kernel
theorem dX8_table_1 : decode cX8_table 1 = .ok (.getfield 7, 3) := by decide +kernel
theorem dX8_table_4 : decode cX8_table 4 = .ok (.iconst 0, 1) := by decide +kernel
theorem dX8_table_5 : decode cX8_table 5 = .ok (.iaload, 1) := by decide +kernel
theorem dX8_table_6 : decode cX8_table 6 = .ok (.iconst 3, 1) := by decide +kernel
theorem dX8_table_7 : decode cX8_table 7 = .ok (.if_icmp .ne 6, 3) := by decide +kernel
theorem dX8_table_10 : decode cX8_table 10 = .ok (.ldc 72, 2) := by decide +kernel
theorem dX8_table_12 : decode cX8_table 12 = .ok (.ireturn, 1) := by decide +kernel
theorem dX8_table_13 : decode cX8_table 13 = .ok (.aload_n 0, 1) := by decide +kernel
theorem dX8_table_14 : decode cX8_table 14 = .ok (.invokevirtual 73, 3) := by decide +kernel
theorem dX8_table_17 : decode cX8_table 17 = .ok (.aload_n 0, 1) := by decide +kernel
theorem dX8_table_18 : decode cX8_table 18 = .ok (.getfield 7, 3) := by decide +kernel
theorem dX8_table_21 : decode cX8_table 21 = .ok (.bipush 10, 2) := by decide +kernel
theorem dX8_table_23 : decode cX8_table 23 = .ok (.bipush 25, 2) := by decide +kernel
theorem dX8_table_25 : decode cX8_table 25 = .ok (.aload_n 0, 1) := by decide +kernel
theorem dX8_table_26 : decode cX8_table 26 = .ok (.getfield 7, 3) := by decide +kernel
theorem dX8_table_29 : decode cX8_table 29 = .ok (.iconst 0, 1) := by decide +kernel
theorem dX8_table_30 : decode cX8_table 30 = .ok (.iaload, 1) := by decide +kernel
theorem dX8_table_31 : decode cX8_table 31 = .ok (.imul, 1) := by decide +kernel
theorem dX8_table_32 : decode cX8_table 32 = .ok (.iadd, 1) := by decide +kernel
theorem dX8_table_33 : decode cX8_table 33 = .ok (.iconst 0, 1) := by decide +kernel
theorem dX8_table_34 : decode cX8_table 34 = .ok (.iastore, 1) := by decide +kernel
theorem dX8_table_35 : decode cX8_table 35 = .ok (.aload_n 0, 1) := by decide +kernel
theorem dX8_table_36 : decode cX8_table 36 = .ok (.getfield 7, 3) := by decide +kernel
theorem dX8_table_39 : decode cX8_table 39 = .ok (.iconst 0, 1) := by decide +kernel
theorem dX8_table_40 : decode cX8_table 40 = .ok (.dup2, 1) := by decide +kernel
theorem dX8_table_41 : decode cX8_table 41 = .ok (.iaload, 1) := by decide +kernel
theorem dX8_table_42 : decode cX8_table 42 = .ok (.iconst 1, 1) := by decide +kernel
theorem dX8_table_43 : decode cX8_table 43 = .ok (.iadd, 1) := by decide +kernel
theorem dX8_table_44 : decode cX8_table 44 = .ok (.iastore, 1) := by decide +kernel
theorem dX8_table_45 : decode cX8_table 45 = .ok (.aload_n 0, 1) := by decide +kernel
theorem dX8_table_46 : decode cX8_table 46 = .ok (.aload_n 0, 1) := by decide +kernel
theorem dX8_table_47 : decode cX8_table 47 = .ok (.getfield 7, 3) := by decide +kernel
theorem dX8_table_50 : decode cX8_table 50 = .ok (.iconst 0, 1) := by decide +kernel
theorem dX8_table_51 : decode cX8_table 51 = .ok (.iaload, 1) := by decide +kernel
theorem dX8_table_52 : decode cX8_table 52 = .ok (.iconst 1, 1) := by decide +kernel
theorem dX8_table_53 : decode cX8_table 53 = .ok (.isub, 1) := by decide +kernel
theorem dX8_table_54 : decode cX8_table 54 = .ok (.invokevirtual 76, 3) := by decide +kernel
theorem dX8_table_57 : decode cX8_table 57 = .ok (.ireturn, 1) := by decide +kernel
theorem dX8_node_0 : decode cX8_node 0 = .ok (.aload_n 0, 1) := by decide +kernel
theorem dX8_node_1 : decode cX8_node 1 = .ok (.iload_n 1, 1) := by decide +kernel
theorem dX8_node_2 : decode cX8_node 2 = .ok (.invokevirtual 79, 3) := by decide +kernel
theorem dX8_node_5 : decode cX8_node 5 = .ok (.ifCond .eq 20, 3) := by decide +kernel
theorem dX8_node_8 : decode cX8_node 8 = .ok (.iload_n 2, 1) := by decide +kernel
theorem dX8_node_9 : decode cX8_node 9 = .ok (.invokestatic 82, 3) := by decide +kernel
theorem dX8_node_12 : decode cX8_node 12 = .ok (.ifCond .eq 13, 3) := by decide +kernel
theorem dX8_node_15 : decode cX8_node 15 = .ok (.iload_n 3, 1) := by decide +kernel
theorem dX8_node_16 : decode cX8_node 16 = .ok (.iconst 1, 1) := by decide +kernel
theorem dX8_node_17 : decode cX8_node 17 = .ok (.ldc 85, 2) := by decide +kernel
theorem dX8_node_19 : decode cX8_node 19 = .ok (.invokestatic 35, 3) := by decide +kernel
theorem dX8_node_22 : decode cX8_node 22 = .ok (.ifCond .ne 6, 3) := by decide +kernel
theorem dX8_node_25 : decode cX8_node 25 = .ok (.ldc 47, 2) := by decide +kernel
theorem dX8_node_27 : decode cX8_node 27 = .ok (.ireturn, 1) := by decide +kernel
theorem dX8_node_28 : decode cX8_node 28 = .ok (.aload_n 0, 1) := by decide +kernel
theorem dX8_node_29 : decode cX8_node 29 = .ok (.iload_n 1, 1) := by decide +kernel
theorem dX8_node_30 : decode cX8_node 30 = .ok (.invokevirtual 55, 3) := by decide +kernel
theorem dX8_node_33 : decode cX8_node 33 = .ok (.istore 4, 2) := by decide +kernel
theorem dX8_node_35 : decode cX8_node 35 = .ok (.iload 4, 2) := by decide +kernel
theorem dX8_node_37 : decode cX8_node 37 = .ok (.ifCond .eq 29, 3) := by decide +kernel
theorem dX8_node_40 : decode cX8_node 40 = .ok (.iload_n 2, 1) := by decide +kernel
theorem dX8_node_41 : decode cX8_node 41 = .ok (.aload_n 0, 1) := by decide +kernel
theorem dX8_node_42 : decode cX8_node 42 = .ok (.iload_n 1, 1) := by decide +kernel
theorem dX8_node_43 : decode cX8_node 43 = .ok (.iload 4, 2) := by decide +kernel
theorem dX8_node_45 : decode cX8_node 45 = .ok (.iconst 1, 1) := by decide +kernel
theorem dX8_node_46 : decode cX8_node 46 = .ok (.isub, 1) := by decide +kernel
theorem dX8_node_47 : decode cX8_node 47 = .ok (.invokevirtual 52, 3) := by decide +kernel
theorem dX8_node_50 : decode cX8_node 50 = .ok (.if_icmp .le 20, 3) := by decide +kernel
theorem dX8_node_53 : decode cX8_node 53 = .ok (.iload_n 3, 1) := by decide +kernel
theorem dX8_node_54 : decode cX8_node 54 = .ok (.aload_n 0, 1) := by decide +kernel
theorem dX8_node_55 : decode cX8_node 55 = .ok (.iload_n 1, 1) := by decide +kernel
theorem dX8_node_56 : decode cX8_node 56 = .ok (.iload 4, 2) := by decide +kernel
theorem dX8_node_58 : decode cX8_node 58 = .ok (.iconst 1, 1) := by decide +kernel
theorem dX8_node_59 : decode cX8_node 59 = .ok (.isub, 1) := by decide +kernel
theorem dX8_node_60 : decode cX8_node 60 = .ok (.invokevirtual 65, 3) := by decide +kernel
theorem dX8_node_63 : decode cX8_node 63 = .ok (.if_icmp .le 7, 3) := by decide +kernel
theorem dX8_node_66 : decode cX8_node 66 = .ok (.iconst 1, 1) := by decide +kernel
theorem dX8_node_67 : decode cX8_node 67 = .ok (.goto 4, 3) := by decide +kernel
theorem dX8_node_70 : decode cX8_node 70 = .ok (.iconst 0, 1) := by decide +kernel
theorem dX8_node_71 : decode cX8_node 71 = .ok (.istore 5, 2) := by decide +kernel
theorem dX8_node_73 : decode cX8_node 73 = .ok (.iconst 0, 1) := by decide +kernel
theorem dX8_node_74 : decode cX8_node 74 = .ok (.istore 6, 2) := by decide +kernel
theorem dX8_node_76 : decode cX8_node 76 = .ok (.iload 6, 2) := by decide +kernel
theorem dX8_node_78 : decode cX8_node 78 = .ok (.aload_n 0, 1) := by decide +kernel
theorem dX8_node_79 : decode cX8_node 79 = .ok (.getfield 7, 3) := by decide +kernel
theorem dX8_node_82 : decode cX8_node 82 = .ok (.iconst 1, 1) := by decide +kernel
theorem dX8_node_83 : decode cX8_node 83 = .ok (.iaload, 1) := by decide +kernel
theorem dX8_node_84 : decode cX8_node 84 = .ok (.if_icmp .ge 32, 3) := by decide +kernel
theorem dX8_node_87 : decode cX8_node 87 = .ok (.iload 5, 2) := by decide +kernel
theorem dX8_node_89 : decode cX8_node 89 = .ok (.ifCond .eq 18, 3) := by decide +kernel
theorem dX8_node_92 : decode cX8_node 92 = .ok (.aload_n 0, 1) := by decide +kernel
theorem dX8_node_93 : decode cX8_node 93 = .ok (.iload 6, 2) := by decide +kernel
theorem dX8_node_95 : decode cX8_node 95 = .ok (.iconst 0, 1) := by decide +kernel
theorem dX8_node_96 : decode cX8_node 96 = .ok (.invokevirtual 43, 3) := by decide +kernel
theorem dX8_node_99 : decode cX8_node 99 = .ok (.iload_n 1, 1) := by decide +kernel
theorem dX8_node_100 : decode cX8_node 100 = .ok (.if_icmp .eq 7, 3) := by decide +kernel
theorem dX8_node_103 : decode cX8_node 103 = .ok (.iconst 1, 1) := by decide +kernel
theorem dX8_node_104 : decode cX8_node 104 = .ok (.goto 4, 3) := by decide +kernel
theorem dX8_node_107 : decode cX8_node 107 = .ok (.iconst 0, 1) := by decide +kernel
theorem dX8_node_108 : decode cX8_node 108 = .ok (.istore 5, 2) := by decide +kernel
theorem dX8_node_110 : decode cX8_node 110 = .ok (.iinc 6 1, 3) := by decide +kernel
theorem dX8_node_113 : decode cX8_node 113 = .ok (.goto (-37), 3) := by decide +kernel
theorem dX8_node_116 : decode cX8_node 116 = .ok (.iload 5, 2) := by decide +kernel
theorem dX8_node_118 : decode cX8_node 118 = .ok (.ifCond .eq 10, 3) := by decide +kernel
theorem dX8_node_121 : decode cX8_node 121 = .ok (.iload 4, 2) := by decide +kernel
theorem dX8_node_123 : decode cX8_node 123 = .ok (.bipush 12, 2) := by decide +kernel
theorem dX8_node_125 : decode cX8_node 125 = .ok (.if_icmp .ne 16, 3) := by decide +kernel
theorem dX8_node_128 : decode cX8_node 128 = .ok (.iload 5, 2) := by decide +kernel
theorem dX8_node_130 : decode cX8_node 130 = .ok (.ifCond .eq 8, 3) := by decide +kernel
theorem dX8_node_133 : decode cX8_node 133 = .ok (.ldc 72, 2) := by decide +kernel
theorem dX8_node_135 : decode cX8_node 135 = .ok (.goto 5, 3) := by decide +kernel
theorem dX8_node_138 : decode cX8_node 138 = .ok (.ldc 86, 2) := by decide +kernel
theorem dX8_node_140 : decode cX8_node 140 = .ok (.ireturn, 1) := by decide +kernel
theorem dX8_node_141 : decode cX8_node 141 = .ok (.aload_n 0, 1) := by decide +kernel
theorem dX8_node_142 : decode cX8_node 142 = .ok (.invokevirtual 73, 3) := by decide +kernel
theorem dX8_node_145 : decode cX8_node 145 = .ok (.aload_n 0, 1) := by decide +kernel
theorem dX8_node_146 : decode cX8_node 146 = .ok (.getfield 7, 3) := by decide +kernel
theorem dX8_node_149 : decode cX8_node 149 = .ok (.bipush 10, 2) := by decide +kernel
theorem dX8_node_151 : decode cX8_node 151 = .ok (.bipush 25, 2) := by decide +kernel
theorem dX8_node_153 : decode cX8_node 153 = .ok (.iload_n 1, 1) := by decide +kernel
theorem dX8_node_154 : decode cX8_node 154 = .ok (.imul, 1) := by decide +kernel
theorem dX8_node_155 : decode cX8_node 155 = .ok (.iadd, 1) := by decide +kernel
theorem dX8_node_156 : decode cX8_node 156 = .ok (.iconst 1, 1) := by decide +kernel
theorem dX8_node_157 : decode cX8_node 157 = .ok (.iadd, 1) := by decide +kernel
theorem dX8_node_158 : decode cX8_node 158 = .ok (.iload 4, 2) := by decide +kernel
theorem dX8_node_160 : decode cX8_node 160 = .ok (.iadd, 1) := by decide +kernel
theorem dX8_node_161 : decode cX8_node 161 = .ok (.iload_n 2, 1) := by decide +kernel
theorem dX8_node_162 : decode cX8_node 162 = .ok (.iastore, 1) := by decide +kernel
theorem dX8_node_163 : decode cX8_node 163 = .ok (.aload_n 0, 1) := by decide +kernel
theorem dX8_node_164 : decode cX8_node 164 = .ok (.getfield 7, 3) := by decide +kernel
theorem dX8_node_167 : decode cX8_node 167 = .ok (.bipush 10, 2) := by decide +kernel
theorem dX8_node_169 : decode cX8_node 169 = .ok (.bipush 25, 2) := by decide +kernel
theorem dX8_node_171 : decode cX8_node 171 = .ok (.iload_n 1, 1) := by decide +kernel
theorem dX8_node_172 : decode cX8_node 172 = .ok (.imul, 1) := by decide +kernel
theorem dX8_node_173 : decode cX8_node 173 = .ok (.iadd, 1) := by decide +kernel
theorem dX8_node_174 : decode cX8_node 174 = .ok (.bipush 13, 2) := by decide +kernel
theorem dX8_node_176 : decode cX8_node 176 = .ok (.iadd, 1) := by decide +kernel
theorem dX8_node_177 : decode cX8_node 177 = .ok (.iload 4, 2) := by decide +kernel
theorem dX8_node_179 : decode cX8_node 179 = .ok (.iadd, 1) := by decide +kernel
theorem dX8_node_180 : decode cX8_node 180 = .ok (.iload_n 3, 1) := by decide +kernel
theorem dX8_node_181 : decode cX8_node 181 = .ok (.iastore, 1) := by decide +kernel
theorem dX8_node_182 : decode cX8_node 182 = .ok (.aload_n 0, 1) := by decide +kernel
theorem dX8_node_183 : decode cX8_node 183 = .ok (.getfield 7, 3) := by decide +kernel
theorem dX8_node_186 : decode cX8_node 186 = .ok (.bipush 10, 2) := by decide +kernel
theorem dX8_node_188 : decode cX8_node 188 = .ok (.bipush 25, 2) := by decide +kernel
theorem dX8_node_190 : decode cX8_node 190 = .ok (.iload_n 1, 1) := by decide +kernel
theorem dX8_node_191 : decode cX8_node 191 = .ok (.imul, 1) := by decide +kernel
theorem dX8_node_192 : decode cX8_node 192 = .ok (.iadd, 1) := by decide +kernel
theorem dX8_node_193 : decode cX8_node 193 = .ok (.dup2, 1) := by decide +kernel
theorem dX8_node_194 : decode cX8_node 194 = .ok (.iaload, 1) := by decide +kernel
theorem dX8_node_195 : decode cX8_node 195 = .ok (.iconst 1, 1) := by decide +kernel
theorem dX8_node_196 : decode cX8_node 196 = .ok (.iadd, 1) := by decide +kernel
theorem dX8_node_197 : decode cX8_node 197 = .ok (.iastore, 1) := by decide +kernel
theorem dX8_node_198 : decode cX8_node 198 = .ok (.aload_n 0, 1) := by decide +kernel
theorem dX8_node_199 : decode cX8_node 199 = .ok (.iload 4, 2) := by decide +kernel
theorem dX8_node_201 : decode cX8_node 201 = .ok (.iconst 1, 1) := by decide +kernel
theorem dX8_node_202 : decode cX8_node 202 = .ok (.iadd, 1) := by decide +kernel
theorem dX8_node_203 : decode cX8_node 203 = .ok (.invokevirtual 76, 3) := by decide +kernel
theorem dX8_node_206 : decode cX8_node 206 = .ok (.ireturn, 1) := by decide +kernel
theorem dX8_nodeAt_0 : decode cX8_nodeAt 0 = .ok (.aload_n 0, 1) := by decide +kernel
theorem dX8_nodeAt_1 : decode cX8_nodeAt 1 = .ok (.iload_n 1, 1) := by decide +kernel
theorem dX8_nodeAt_2 : decode cX8_nodeAt 2 = .ok (.invokevirtual 79, 3) := by decide +kernel
theorem dX8_nodeAt_5 : decode cX8_nodeAt 5 = .ok (.ifCond .eq 16, 3) := by decide +kernel
theorem dX8_nodeAt_8 : decode cX8_nodeAt 8 = .ok (.iload_n 2, 1) := by decide +kernel
theorem dX8_nodeAt_9 : decode cX8_nodeAt 9 = .ok (.ifCond .lt 12, 3) := by decide +kernel
theorem dX8_nodeAt_12 : decode cX8_nodeAt 12 = .ok (.iload_n 3, 1) := by decide +kernel
theorem dX8_nodeAt_13 : decode cX8_nodeAt 13 = .ok (.iconst 0, 1) := by decide +kernel
theorem dX8_nodeAt_14 : decode cX8_nodeAt 14 = .ok (.iconst 1, 1) := by decide +kernel
theorem dX8_nodeAt_15 : decode cX8_nodeAt 15 = .ok (.invokestatic 35, 3) := by decide +kernel
theorem dX8_nodeAt_18 : decode cX8_nodeAt 18 = .ok (.ifCond .ne 6, 3) := by decide +kernel
theorem dX8_nodeAt_21 : decode cX8_nodeAt 21 = .ok (.ldc 47, 2) := by decide +kernel
theorem dX8_nodeAt_23 : decode cX8_nodeAt 23 = .ok (.ireturn, 1) := by decide +kernel
theorem dX8_nodeAt_24 : decode cX8_nodeAt 24 = .ok (.iload_n 2, 1) := by decide +kernel
theorem dX8_nodeAt_25 : decode cX8_nodeAt 25 = .ok (.aload_n 0, 1) := by decide +kernel
theorem dX8_nodeAt_26 : decode cX8_nodeAt 26 = .ok (.iload_n 1, 1) := by decide +kernel
theorem dX8_nodeAt_27 : decode cX8_nodeAt 27 = .ok (.invokevirtual 55, 3) := by decide +kernel
theorem dX8_nodeAt_30 : decode cX8_nodeAt 30 = .ok (.if_icmp .lt 8, 3) := by decide +kernel
theorem dX8_nodeAt_33 : decode cX8_nodeAt 33 = .ok (.ldc 68, 2) := by decide +kernel
theorem dX8_nodeAt_35 : decode cX8_nodeAt 35 = .ok (.goto 22, 3) := by decide +kernel
theorem dX8_nodeAt_38 : decode cX8_nodeAt 38 = .ok (.iload_n 3, 1) := by decide +kernel
theorem dX8_nodeAt_39 : decode cX8_nodeAt 39 = .ok (.ifCond .ne 12, 3) := by decide +kernel
theorem dX8_nodeAt_42 : decode cX8_nodeAt 42 = .ok (.aload_n 0, 1) := by decide +kernel
theorem dX8_nodeAt_43 : decode cX8_nodeAt 43 = .ok (.iload_n 1, 1) := by decide +kernel
theorem dX8_nodeAt_44 : decode cX8_nodeAt 44 = .ok (.iload_n 2, 1) := by decide +kernel
theorem dX8_nodeAt_45 : decode cX8_nodeAt 45 = .ok (.invokevirtual 52, 3) := by decide +kernel
theorem dX8_nodeAt_48 : decode cX8_nodeAt 48 = .ok (.goto 9, 3) := by decide +kernel
theorem dX8_nodeAt_51 : decode cX8_nodeAt 51 = .ok (.aload_n 0, 1) := by decide +kernel
theorem dX8_nodeAt_52 : decode cX8_nodeAt 52 = .ok (.iload_n 1, 1) := by decide +kernel
theorem dX8_nodeAt_53 : decode cX8_nodeAt 53 = .ok (.iload_n 2, 1) := by decide +kernel
theorem dX8_nodeAt_54 : decode cX8_nodeAt 54 = .ok (.invokevirtual 65, 3) := by decide +kernel
theorem dX8_nodeAt_57 : decode cX8_nodeAt 57 = .ok (.ireturn, 1) := by decide +kernel
theorem dX8_ratio_0 : decode cX8_ratio 0 = .ok (.aload_n 0, 1) := by decide +kernel
theorem dX8_ratio_1 : decode cX8_ratio 1 = .ok (.iload_n 1, 1) := by decide +kernel
theorem dX8_ratio_2 : decode cX8_ratio 2 = .ok (.invokevirtual 79, 3) := by decide +kernel
theorem dX8_ratio_5 : decode cX8_ratio 5 = .ok (.ifCond .eq 10, 3) := by decide +kernel
theorem dX8_ratio_8 : decode cX8_ratio 8 = .ok (.iload_n 2, 1) := by decide +kernel
theorem dX8_ratio_9 : decode cX8_ratio 9 = .ok (.invokestatic 82, 3) := by decide +kernel
theorem dX8_ratio_12 : decode cX8_ratio 12 = .ok (.ifCond .ne 6, 3) := by decide +kernel
theorem dX8_ratio_15 : decode cX8_ratio 15 = .ok (.ldc 47, 2) := by decide +kernel
theorem dX8_ratio_17 : decode cX8_ratio 17 = .ok (.ireturn, 1) := by decide +kernel
theorem dX8_ratio_18 : decode cX8_ratio 18 = .ok (.aload_n 0, 1) := by decide +kernel
theorem dX8_ratio_19 : decode cX8_ratio 19 = .ok (.iload_n 1, 1) := by decide +kernel
theorem dX8_ratio_20 : decode cX8_ratio 20 = .ok (.iload_n 2, 1) := by decide +kernel
theorem dX8_ratio_21 : decode cX8_ratio 21 = .ok (.invokevirtual 87, 3) := by decide +kernel
theorem dX8_ratio_24 : decode cX8_ratio 24 = .ok (.ifCond .eq 12, 3) := by decide +kernel
theorem dX8_ratio_27 : decode cX8_ratio 27 = .ok (.aload_n 0, 1) := by decide +kernel
theorem dX8_ratio_28 : decode cX8_ratio 28 = .ok (.iload_n 1, 1) := by decide +kernel
theorem dX8_ratio_29 : decode cX8_ratio 29 = .ok (.iload_n 2, 1) := by decide +kernel
theorem dX8_ratio_30 : decode cX8_ratio 30 = .ok (.invokevirtual 69, 3) := by decide +kernel
theorem dX8_ratio_33 : decode cX8_ratio 33 = .ok (.goto 5, 3) := by decide +kernel
theorem dX8_ratio_36 : decode cX8_ratio 36 = .ok (.ldc 68, 2) := by decide +kernel
theorem dX8_ratio_38 : decode cX8_ratio 38 = .ok (.ireturn, 1) := by decide +kernel
theorem dX8_inverse_0 : decode cX8_inverse 0 = .ok (.aload_n 0, 1) := by decide +kernel
theorem dX8_inverse_1 : decode cX8_inverse 1 = .ok (.iload_n 1, 1) := by decide +kernel
theorem dX8_inverse_2 : decode cX8_inverse 2 = .ok (.invokevirtual 79, 3) := by decide +kernel
theorem dX8_inverse_5 : decode cX8_inverse 5 = .ok (.ifCond .eq 23, 3) := by decide +kernel
theorem dX8_inverse_8 : decode cX8_inverse 8 = .ok (.iload_n 2, 1) := by decide +kernel
theorem dX8_inverse_9 : decode cX8_inverse 9 = .ok (.iconst 1, 1) := by decide +kernel
theorem dX8_inverse_10 : decode cX8_inverse 10 = .ok (.ldc 85, 2) := by decide +kernel
theorem dX8_inverse_12 : decode cX8_inverse 12 = .ok (.invokestatic 35, 3) := by decide +kernel
theorem dX8_inverse_15 : decode cX8_inverse 15 = .ok (.ifCond .eq 13, 3) := by decide +kernel
theorem dX8_inverse_18 : decode cX8_inverse 18 = .ok (.aload_n 0, 1) := by decide +kernel
theorem dX8_inverse_19 : decode cX8_inverse 19 = .ok (.iload_n 1, 1) := by decide +kernel
theorem dX8_inverse_20 : decode cX8_inverse 20 = .ok (.iload_n 2, 1) := by decide +kernel
theorem dX8_inverse_21 : decode cX8_inverse 21 = .ok (.i2l, 1) := by decide +kernel
theorem dX8_inverse_22 : decode cX8_inverse 22 = .ok (.invokevirtual 91, 3) := by decide +kernel
theorem dX8_inverse_25 : decode cX8_inverse 25 = .ok (.goto 5, 3) := by decide +kernel
theorem dX8_inverse_28 : decode cX8_inverse 28 = .ok (.ldc 47, 2) := by decide +kernel
theorem dX8_inverse_30 : decode cX8_inverse 30 = .ok (.ireturn, 1) := by decide +kernel
theorem dX8_sensor_0 : decode cX8_sensor 0 = .ok (.aload_n 0, 1) := by decide +kernel
theorem dX8_sensor_1 : decode cX8_sensor 1 = .ok (.iload_n 1, 1) := by decide +kernel
theorem dX8_sensor_2 : decode cX8_sensor 2 = .ok (.invokevirtual 79, 3) := by decide +kernel
theorem dX8_sensor_5 : decode cX8_sensor 5 = .ok (.ifCond .eq 24, 3) := by decide +kernel
theorem dX8_sensor_8 : decode cX8_sensor 8 = .ok (.iload_n 2, 1) := by decide +kernel
theorem dX8_sensor_9 : decode cX8_sensor 9 = .ok (.iconst 2, 1) := by decide +kernel
theorem dX8_sensor_10 : decode cX8_sensor 10 = .ok (.iconst 4, 1) := by decide +kernel
theorem dX8_sensor_11 : decode cX8_sensor 11 = .ok (.invokestatic 35, 3) := by decide +kernel
theorem dX8_sensor_14 : decode cX8_sensor 14 = .ok (.ifCond .eq 15, 3) := by decide +kernel
theorem dX8_sensor_17 : decode cX8_sensor 17 = .ok (.iload_n 3, 1) := by decide +kernel
theorem dX8_sensor_18 : decode cX8_sensor 18 = .ok (.sipush 1000, 3) := by decide +kernel
theorem dX8_sensor_21 : decode cX8_sensor 21 = .ok (.ldc 95, 2) := by decide +kernel
theorem dX8_sensor_23 : decode cX8_sensor 23 = .ok (.invokestatic 35, 3) := by decide +kernel
theorem dX8_sensor_26 : decode cX8_sensor 26 = .ok (.ifCond .ne 6, 3) := by decide +kernel
theorem dX8_sensor_29 : decode cX8_sensor 29 = .ok (.ldc 47, 2) := by decide +kernel
theorem dX8_sensor_31 : decode cX8_sensor 31 = .ok (.ireturn, 1) := by decide +kernel
theorem dX8_sensor_32 : decode cX8_sensor 32 = .ok (.aload_n 0, 1) := by decide +kernel
theorem dX8_sensor_33 : decode cX8_sensor 33 = .ok (.iload_n 1, 1) := by decide +kernel
theorem dX8_sensor_34 : decode cX8_sensor 34 = .ok (.invokevirtual 55, 3) := by decide +kernel
theorem dX8_sensor_37 : decode cX8_sensor 37 = .ok (.iconst 2, 1) := by decide +kernel
theorem dX8_sensor_38 : decode cX8_sensor 38 = .ok (.if_icmp .ge 6, 3) := by decide +kernel
theorem dX8_sensor_41 : decode cX8_sensor 41 = .ok (.ldc 86, 2) := by decide +kernel
theorem dX8_sensor_43 : decode cX8_sensor 43 = .ok (.ireturn, 1) := by decide +kernel
theorem dX8_sensor_44 : decode cX8_sensor 44 = .ok (.aload_n 0, 1) := by decide +kernel
theorem dX8_sensor_45 : decode cX8_sensor 45 = .ok (.getfield 7, 3) := by decide +kernel
theorem dX8_sensor_48 : decode cX8_sensor 48 = .ok (.iconst 1, 1) := by decide +kernel
theorem dX8_sensor_49 : decode cX8_sensor 49 = .ok (.iaload, 1) := by decide +kernel
theorem dX8_sensor_50 : decode cX8_sensor 50 = .ok (.bipush 6, 2) := by decide +kernel
theorem dX8_sensor_52 : decode cX8_sensor 52 = .ok (.if_icmp .ne 6, 3) := by decide +kernel
theorem dX8_sensor_55 : decode cX8_sensor 55 = .ok (.ldc 72, 2) := by decide +kernel
theorem dX8_sensor_57 : decode cX8_sensor 57 = .ok (.ireturn, 1) := by decide +kernel
theorem dX8_sensor_58 : decode cX8_sensor 58 = .ok (.aload_n 0, 1) := by decide +kernel
theorem dX8_sensor_59 : decode cX8_sensor 59 = .ok (.invokevirtual 73, 3) := by decide +kernel
theorem dX8_sensor_62 : decode cX8_sensor 62 = .ok (.aload_n 0, 1) := by decide +kernel
theorem dX8_sensor_63 : decode cX8_sensor 63 = .ok (.getfield 7, 3) := by decide +kernel
theorem dX8_sensor_66 : decode cX8_sensor 66 = .ok (.iconst 1, 1) := by decide +kernel
theorem dX8_sensor_67 : decode cX8_sensor 67 = .ok (.iaload, 1) := by decide +kernel
theorem dX8_sensor_68 : decode cX8_sensor 68 = .ok (.istore 4, 2) := by decide +kernel
theorem dX8_sensor_70 : decode cX8_sensor 70 = .ok (.aload_n 0, 1) := by decide +kernel
theorem dX8_sensor_71 : decode cX8_sensor 71 = .ok (.getfield 7, 3) := by decide +kernel
theorem dX8_sensor_74 : decode cX8_sensor 74 = .ok (.iconst 1, 1) := by decide +kernel
theorem dX8_sensor_75 : decode cX8_sensor 75 = .ok (.dup2, 1) := by decide +kernel
theorem dX8_sensor_76 : decode cX8_sensor 76 = .ok (.iaload, 1) := by decide +kernel
theorem dX8_sensor_77 : decode cX8_sensor 77 = .ok (.iconst 1, 1) := by decide +kernel
theorem dX8_sensor_78 : decode cX8_sensor 78 = .ok (.iadd, 1) := by decide +kernel
theorem dX8_sensor_79 : decode cX8_sensor 79 = .ok (.iastore, 1) := by decide +kernel
theorem dX8_sensor_80 : decode cX8_sensor 80 = .ok (.iconst 0, 1) := by decide +kernel
theorem dX8_sensor_81 : decode cX8_sensor 81 = .ok (.istore 5, 2) := by decide +kernel
theorem dX8_sensor_83 : decode cX8_sensor 83 = .ok (.iload 5, 2) := by decide +kernel
theorem dX8_sensor_85 : decode cX8_sensor 85 = .ok (.bipush 29, 2) := by decide +kernel
theorem dX8_sensor_87 : decode cX8_sensor 87 = .ok (.if_icmp .ge 18, 3) := by decide +kernel
theorem dX8_sensor_90 : decode cX8_sensor 90 = .ok (.aload_n 0, 1) := by decide +kernel
theorem dX8_sensor_91 : decode cX8_sensor 91 = .ok (.iload 4, 2) := by decide +kernel
theorem dX8_sensor_93 : decode cX8_sensor 93 = .ok (.iload 5, 2) := by decide +kernel
theorem dX8_sensor_95 : decode cX8_sensor 95 = .ok (.iconst 0, 1) := by decide +kernel
theorem dX8_sensor_96 : decode cX8_sensor 96 = .ok (.invokevirtual 96, 3) := by decide +kernel
theorem dX8_sensor_99 : decode cX8_sensor 99 = .ok (.iinc 5 1, 3) := by decide +kernel
theorem dX8_sensor_102 : decode cX8_sensor 102 = .ok (.goto (-19), 3) := by decide +kernel
theorem dX8_sensor_105 : decode cX8_sensor 105 = .ok (.aload_n 0, 1) := by decide +kernel
theorem dX8_sensor_106 : decode cX8_sensor 106 = .ok (.iload 4, 2) := by decide +kernel
theorem dX8_sensor_108 : decode cX8_sensor 108 = .ok (.iconst 0, 1) := by decide +kernel
theorem dX8_sensor_109 : decode cX8_sensor 109 = .ok (.iload_n 1, 1) := by decide +kernel
theorem dX8_sensor_110 : decode cX8_sensor 110 = .ok (.invokevirtual 96, 3) := by decide +kernel
theorem dX8_sensor_113 : decode cX8_sensor 113 = .ok (.aload_n 0, 1) := by decide +kernel
theorem dX8_sensor_114 : decode cX8_sensor 114 = .ok (.iload 4, 2) := by decide +kernel
theorem dX8_sensor_116 : decode cX8_sensor 116 = .ok (.iconst 1, 1) := by decide +kernel
theorem dX8_sensor_117 : decode cX8_sensor 117 = .ok (.iload_n 2, 1) := by decide +kernel
theorem dX8_sensor_118 : decode cX8_sensor 118 = .ok (.invokevirtual 96, 3) := by decide +kernel
theorem dX8_sensor_121 : decode cX8_sensor 121 = .ok (.aload_n 0, 1) := by decide +kernel
theorem dX8_sensor_122 : decode cX8_sensor 122 = .ok (.iload 4, 2) := by decide +kernel
theorem dX8_sensor_124 : decode cX8_sensor 124 = .ok (.iconst 2, 1) := by decide +kernel
theorem dX8_sensor_125 : decode cX8_sensor 125 = .ok (.iload_n 3, 1) := by decide +kernel
theorem dX8_sensor_126 : decode cX8_sensor 126 = .ok (.invokevirtual 96, 3) := by decide +kernel
theorem dX8_sensor_129 : decode cX8_sensor 129 = .ok (.aload_n 0, 1) := by decide +kernel
theorem dX8_sensor_130 : decode cX8_sensor 130 = .ok (.iload 4, 2) := by decide +kernel
theorem dX8_sensor_132 : decode cX8_sensor 132 = .ok (.iconst 3, 1) := by decide +kernel
theorem dX8_sensor_133 : decode cX8_sensor 133 = .ok (.iload_n 3, 1) := by decide +kernel
theorem dX8_sensor_134 : decode cX8_sensor 134 = .ok (.invokevirtual 96, 3) := by decide +kernel
theorem dX8_sensor_137 : decode cX8_sensor 137 = .ok (.aload_n 0, 1) := by decide +kernel
theorem dX8_sensor_138 : decode cX8_sensor 138 = .ok (.iload 4, 2) := by decide +kernel
theorem dX8_sensor_140 : decode cX8_sensor 140 = .ok (.iconst 4, 1) := by decide +kernel
theorem dX8_sensor_141 : decode cX8_sensor 141 = .ok (.aload_n 0, 1) := by decide +kernel
theorem dX8_sensor_142 : decode cX8_sensor 142 = .ok (.iload_n 1, 1) := by decide +kernel
theorem dX8_sensor_143 : decode cX8_sensor 143 = .ok (.invokevirtual 59, 3) := by decide +kernel
theorem dX8_sensor_146 : decode cX8_sensor 146 = .ok (.ifCond .le 11, 3) := by decide +kernel
theorem dX8_sensor_149 : decode cX8_sensor 149 = .ok (.aload_n 0, 1) := by decide +kernel
theorem dX8_sensor_150 : decode cX8_sensor 150 = .ok (.iload_n 1, 1) := by decide +kernel
theorem dX8_sensor_151 : decode cX8_sensor 151 = .ok (.invokevirtual 59, 3) := by decide +kernel
theorem dX8_sensor_154 : decode cX8_sensor 154 = .ok (.goto 20, 3) := by decide +kernel
theorem dX8_sensor_157 : decode cX8_sensor 157 = .ok (.aload_n 0, 1) := by decide +kernel
theorem dX8_sensor_158 : decode cX8_sensor 158 = .ok (.iload_n 1, 1) := by decide +kernel
theorem dX8_sensor_159 : decode cX8_sensor 159 = .ok (.invokevirtual 62, 3) := by decide +kernel
theorem dX8_sensor_162 : decode cX8_sensor 162 = .ok (.ifCond .ge 11, 3) := by decide +kernel
theorem dX8_sensor_165 : decode cX8_sensor 165 = .ok (.aload_n 0, 1) := by decide +kernel
theorem dX8_sensor_166 : decode cX8_sensor 166 = .ok (.iload_n 1, 1) := by decide +kernel
theorem dX8_sensor_167 : decode cX8_sensor 167 = .ok (.invokevirtual 62, 3) := by decide +kernel
theorem dX8_sensor_170 : decode cX8_sensor 170 = .ok (.goto 4, 3) := by decide +kernel
theorem dX8_sensor_173 : decode cX8_sensor 173 = .ok (.iconst 0, 1) := by decide +kernel
theorem dX8_sensor_174 : decode cX8_sensor 174 = .ok (.invokevirtual 96, 3) := by decide +kernel
theorem dX8_sensor_177 : decode cX8_sensor 177 = .ok (.aload_n 0, 1) := by decide +kernel
theorem dX8_sensor_178 : decode cX8_sensor 178 = .ok (.iload 4, 2) := by decide +kernel
theorem dX8_sensor_180 : decode cX8_sensor 180 = .ok (.bipush 13, 2) := by decide +kernel
theorem dX8_sensor_182 : decode cX8_sensor 182 = .ok (.iconst (-1), 1) := by decide +kernel
theorem dX8_sensor_183 : decode cX8_sensor 183 = .ok (.invokevirtual 96, 3) := by decide +kernel
theorem dX8_sensor_186 : decode cX8_sensor 186 = .ok (.aload_n 0, 1) := by decide +kernel
theorem dX8_sensor_187 : decode cX8_sensor 187 = .ok (.iload 4, 2) := by decide +kernel
theorem dX8_sensor_189 : decode cX8_sensor 189 = .ok (.bipush 14, 2) := by decide +kernel
theorem dX8_sensor_191 : decode cX8_sensor 191 = .ok (.ldc 33, 2) := by decide +kernel
theorem dX8_sensor_193 : decode cX8_sensor 193 = .ok (.invokevirtual 96, 3) := by decide +kernel
theorem dX8_sensor_196 : decode cX8_sensor 196 = .ok (.aload_n 0, 1) := by decide +kernel
theorem dX8_sensor_197 : decode cX8_sensor 197 = .ok (.iload 4, 2) := by decide +kernel
theorem dX8_sensor_199 : decode cX8_sensor 199 = .ok (.bipush 15, 2) := by decide +kernel
theorem dX8_sensor_201 : decode cX8_sensor 201 = .ok (.ldc 34, 2) := by decide +kernel
theorem dX8_sensor_203 : decode cX8_sensor 203 = .ok (.invokevirtual 96, 3) := by decide +kernel
theorem dX8_sensor_206 : decode cX8_sensor 206 = .ok (.aload_n 0, 1) := by decide +kernel
theorem dX8_sensor_207 : decode cX8_sensor 207 = .ok (.iload 4, 2) := by decide +kernel
theorem dX8_sensor_209 : decode cX8_sensor 209 = .ok (.invokevirtual 76, 3) := by decide +kernel
theorem dX8_sensor_212 : decode cX8_sensor 212 = .ok (.ireturn, 1) := by decide +kernel
theorem dX8_inside_0 : decode cX8_inside 0 = .ok (.iconst 0, 1) := by decide +kernel
theorem dX8_inside_1 : decode cX8_inside 1 = .ok (.istore_n 2, 1) := by decide +kernel
theorem dX8_inside_2 : decode cX8_inside 2 = .ok (.iload_n 2, 1) := by decide +kernel
theorem dX8_inside_3 : decode cX8_inside 3 = .ok (.aload_n 0, 1) := by decide +kernel
theorem dX8_inside_4 : decode cX8_inside 4 = .ok (.getfield 7, 3) := by decide +kernel
theorem dX8_inside_7 : decode cX8_inside 7 = .ok (.iconst 1, 1) := by decide +kernel
theorem dX8_inside_8 : decode cX8_inside 8 = .ok (.iaload, 1) := by decide +kernel
theorem dX8_inside_9 : decode cX8_inside 9 = .ok (.if_icmp .ge 22, 3) := by decide +kernel
theorem dX8_inside_12 : decode cX8_inside 12 = .ok (.aload_n 0, 1) := by decide +kernel
theorem dX8_inside_13 : decode cX8_inside 13 = .ok (.iload_n 2, 1) := by decide +kernel
theorem dX8_inside_14 : decode cX8_inside 14 = .ok (.bipush 13, 2) := by decide +kernel
theorem dX8_inside_16 : decode cX8_inside 16 = .ok (.invokevirtual 43, 3) := by decide +kernel
theorem dX8_inside_19 : decode cX8_inside 19 = .ok (.iload_n 1, 1) := by decide +kernel
theorem dX8_inside_20 : decode cX8_inside 20 = .ok (.if_icmp .ne 5, 3) := by decide +kernel
theorem dX8_inside_23 : decode cX8_inside 23 = .ok (.iload_n 2, 1) := by decide +kernel
theorem dX8_inside_24 : decode cX8_inside 24 = .ok (.ireturn, 1) := by decide +kernel
theorem dX8_inside_25 : decode cX8_inside 25 = .ok (.iinc 2 1, 3) := by decide +kernel
theorem dX8_inside_28 : decode cX8_inside 28 = .ok (.goto (-26), 3) := by decide +kernel
theorem dX8_inside_31 : decode cX8_inside 31 = .ok (.iconst (-1), 1) := by decide +kernel
theorem dX8_inside_32 : decode cX8_inside 32 = .ok (.ireturn, 1) := by decide +kernel
theorem dX8_plug_0 : decode cX8_plug 0 = .ok (.aload_n 0, 1) := by decide +kernel
theorem dX8_plug_1 : decode cX8_plug 1 = .ok (.iload_n 1, 1) := by decide +kernel
theorem dX8_plug_2 : decode cX8_plug 2 = .ok (.invokevirtual 39, 3) := by decide +kernel
theorem dX8_plug_5 : decode cX8_plug 5 = .ok (.ifCond .eq 21, 3) := by decide +kernel
theorem dX8_plug_8 : decode cX8_plug 8 = .ok (.iload_n 2, 1) := by decide +kernel
theorem dX8_plug_9 : decode cX8_plug 9 = .ok (.iconst 0, 1) := by decide +kernel
theorem dX8_plug_10 : decode cX8_plug 10 = .ok (.iconst 3, 1) := by decide +kernel
theorem dX8_plug_11 : decode cX8_plug 11 = .ok (.invokestatic 35, 3) := by decide +kernel
theorem dX8_plug_14 : decode cX8_plug 14 = .ok (.ifCond .eq 12, 3) := by decide +kernel
theorem dX8_plug_17 : decode cX8_plug 17 = .ok (.iload_n 3, 1) := by decide +kernel
theorem dX8_plug_18 : decode cX8_plug 18 = .ok (.iconst 0, 1) := by decide +kernel
theorem dX8_plug_19 : decode cX8_plug 19 = .ok (.iconst 2, 1) := by decide +kernel
theorem dX8_plug_20 : decode cX8_plug 20 = .ok (.invokestatic 35, 3) := by decide +kernel
theorem dX8_plug_23 : decode cX8_plug 23 = .ok (.ifCond .ne 6, 3) := by decide +kernel
theorem dX8_plug_26 : decode cX8_plug 26 = .ok (.ldc 47, 2) := by decide +kernel
theorem dX8_plug_28 : decode cX8_plug 28 = .ok (.ireturn, 1) := by decide +kernel
theorem dX8_plug_29 : decode cX8_plug 29 = .ok (.aload_n 0, 1) := by decide +kernel
theorem dX8_plug_30 : decode cX8_plug 30 = .ok (.iload_n 1, 1) := by decide +kernel
theorem dX8_plug_31 : decode cX8_plug 31 = .ok (.bipush 13, 2) := by decide +kernel
theorem dX8_plug_33 : decode cX8_plug 33 = .ok (.invokevirtual 43, 3) := by decide +kernel
theorem dX8_plug_36 : decode cX8_plug 36 = .ok (.iconst (-1), 1) := by decide +kernel
theorem dX8_plug_37 : decode cX8_plug 37 = .ok (.if_icmp .ne 34, 3) := by decide +kernel
theorem dX8_plug_40 : decode cX8_plug 40 = .ok (.aload_n 0, 1) := by decide +kernel
theorem dX8_plug_41 : decode cX8_plug 41 = .ok (.bipush 10, 2) := by decide +kernel
theorem dX8_plug_43 : decode cX8_plug 43 = .ok (.iload_n 2, 1) := by decide +kernel
theorem dX8_plug_44 : decode cX8_plug 44 = .ok (.imul, 1) := by decide +kernel
theorem dX8_plug_45 : decode cX8_plug 45 = .ok (.iload_n 3, 1) := by decide +kernel
theorem dX8_plug_46 : decode cX8_plug 46 = .ok (.iadd, 1) := by decide +kernel
theorem dX8_plug_47 : decode cX8_plug 47 = .ok (.invokevirtual 100, 3) := by decide +kernel
theorem dX8_plug_50 : decode cX8_plug 50 = .ok (.iconst (-1), 1) := by decide +kernel
theorem dX8_plug_51 : decode cX8_plug 51 = .ok (.if_icmp .ne 20, 3) := by decide +kernel
theorem dX8_plug_54 : decode cX8_plug 54 = .ok (.iload_n 2, 1) := by decide +kernel
theorem dX8_plug_55 : decode cX8_plug 55 = .ok (.iconst 3, 1) := by decide +kernel
theorem dX8_plug_56 : decode cX8_plug 56 = .ok (.if_icmp .ge 18, 3) := by decide +kernel
theorem dX8_plug_59 : decode cX8_plug 59 = .ok (.aload_n 0, 1) := by decide +kernel
theorem dX8_plug_60 : decode cX8_plug 60 = .ok (.iload_n 1, 1) := by decide +kernel
theorem dX8_plug_61 : decode cX8_plug 61 = .ok (.iconst 1, 1) := by decide +kernel
theorem dX8_plug_62 : decode cX8_plug 62 = .ok (.invokevirtual 43, 3) := by decide +kernel
theorem dX8_plug_65 : decode cX8_plug 65 = .ok (.iload_n 2, 1) := by decide +kernel
theorem dX8_plug_66 : decode cX8_plug 66 = .ok (.iconst 2, 1) := by decide +kernel
theorem dX8_plug_67 : decode cX8_plug 67 = .ok (.iadd, 1) := by decide +kernel
theorem dX8_plug_68 : decode cX8_plug 68 = .ok (.if_icmp .eq 6, 3) := by decide +kernel
theorem dX8_plug_71 : decode cX8_plug 71 = .ok (.ldc 86, 2) := by decide +kernel
theorem dX8_plug_73 : decode cX8_plug 73 = .ok (.ireturn, 1) := by decide +kernel
theorem dX8_plug_74 : decode cX8_plug 74 = .ok (.aload_n 0, 1) := by decide +kernel
theorem dX8_plug_75 : decode cX8_plug 75 = .ok (.invokevirtual 73, 3) := by decide +kernel
theorem dX8_plug_78 : decode cX8_plug 78 = .ok (.aload_n 0, 1) := by decide +kernel
theorem dX8_plug_79 : decode cX8_plug 79 = .ok (.iload_n 1, 1) := by decide +kernel
theorem dX8_plug_80 : decode cX8_plug 80 = .ok (.bipush 13, 2) := by decide +kernel
theorem dX8_plug_82 : decode cX8_plug 82 = .ok (.bipush 10, 2) := by decide +kernel
theorem dX8_plug_84 : decode cX8_plug 84 = .ok (.iload_n 2, 1) := by decide +kernel
theorem dX8_plug_85 : decode cX8_plug 85 = .ok (.imul, 1) := by decide +kernel
theorem dX8_plug_86 : decode cX8_plug 86 = .ok (.iload_n 3, 1) := by decide +kernel
theorem dX8_plug_87 : decode cX8_plug 87 = .ok (.iadd, 1) := by decide +kernel
theorem dX8_plug_88 : decode cX8_plug 88 = .ok (.invokevirtual 96, 3) := by decide +kernel
theorem dX8_plug_91 : decode cX8_plug 91 = .ok (.iconst 0, 1) := by decide +kernel
theorem dX8_plug_92 : decode cX8_plug 92 = .ok (.istore 4, 2) := by decide +kernel
theorem dX8_plug_94 : decode cX8_plug 94 = .ok (.iconst 0, 1) := by decide +kernel
theorem dX8_plug_95 : decode cX8_plug 95 = .ok (.istore 5, 2) := by decide +kernel
theorem dX8_plug_97 : decode cX8_plug 97 = .ok (.iload 5, 2) := by decide +kernel
theorem dX8_plug_99 : decode cX8_plug 99 = .ok (.iconst 3, 1) := by decide +kernel
theorem dX8_plug_100 : decode cX8_plug 100 = .ok (.if_icmp .ge 34, 3) := by decide +kernel
theorem dX8_plug_103 : decode cX8_plug 103 = .ok (.iload 4, 2) := by decide +kernel
theorem dX8_plug_105 : decode cX8_plug 105 = .ok (.aload_n 0, 1) := by decide +kernel
theorem dX8_plug_106 : decode cX8_plug 106 = .ok (.bipush 10, 2) := by decide +kernel
theorem dX8_plug_108 : decode cX8_plug 108 = .ok (.iload_n 2, 1) := by decide +kernel
theorem dX8_plug_109 : decode cX8_plug 109 = .ok (.imul, 1) := by decide +kernel
theorem dX8_plug_110 : decode cX8_plug 110 = .ok (.iload 5, 2) := by decide +kernel
theorem dX8_plug_112 : decode cX8_plug 112 = .ok (.iadd, 1) := by decide +kernel
theorem dX8_plug_113 : decode cX8_plug 113 = .ok (.invokevirtual 100, 3) := by decide +kernel
theorem dX8_plug_116 : decode cX8_plug 116 = .ok (.iconst (-1), 1) := by decide +kernel
theorem dX8_plug_117 : decode cX8_plug 117 = .ok (.if_icmp .ne 7, 3) := by decide +kernel
theorem dX8_plug_120 : decode cX8_plug 120 = .ok (.iconst 0, 1) := by decide +kernel
theorem dX8_plug_121 : decode cX8_plug 121 = .ok (.goto 4, 3) := by decide +kernel
theorem dX8_plug_124 : decode cX8_plug 124 = .ok (.iconst 1, 1) := by decide +kernel
theorem dX8_plug_125 : decode cX8_plug 125 = .ok (.iadd, 1) := by decide +kernel
theorem dX8_plug_126 : decode cX8_plug 126 = .ok (.istore 4, 2) := by decide +kernel
theorem dX8_plug_128 : decode cX8_plug 128 = .ok (.iinc 5 1, 3) := by decide +kernel
theorem dX8_plug_131 : decode cX8_plug 131 = .ok (.goto (-34), 3) := by decide +kernel
theorem dX8_plug_134 : decode cX8_plug 134 = .ok (.aload_n 0, 1) := by decide +kernel
theorem dX8_plug_135 : decode cX8_plug 135 = .ok (.iload 4, 2) := by decide +kernel
theorem dX8_plug_137 : decode cX8_plug 137 = .ok (.invokevirtual 76, 3) := by decide +kernel
theorem dX8_plug_140 : decode cX8_plug 140 = .ok (.ireturn, 1) := by decide +kernel
theorem dX8_unplug_0 : decode cX8_unplug 0 = .ok (.aload_n 0, 1) := by decide +kernel
theorem dX8_unplug_1 : decode cX8_unplug 1 = .ok (.iload_n 1, 1) := by decide +kernel
theorem dX8_unplug_2 : decode cX8_unplug 2 = .ok (.invokevirtual 39, 3) := by decide +kernel
theorem dX8_unplug_5 : decode cX8_unplug 5 = .ok (.ifCond .ne 6, 3) := by decide +kernel
theorem dX8_unplug_8 : decode cX8_unplug 8 = .ok (.ldc 47, 2) := by decide +kernel
theorem dX8_unplug_10 : decode cX8_unplug 10 = .ok (.ireturn, 1) := by decide +kernel
theorem dX8_unplug_11 : decode cX8_unplug 11 = .ok (.aload_n 0, 1) := by decide +kernel
theorem dX8_unplug_12 : decode cX8_unplug 12 = .ok (.iload_n 1, 1) := by decide +kernel
theorem dX8_unplug_13 : decode cX8_unplug 13 = .ok (.bipush 13, 2) := by decide +kernel
theorem dX8_unplug_15 : decode cX8_unplug 15 = .ok (.invokevirtual 43, 3) := by decide +kernel
theorem dX8_unplug_18 : decode cX8_unplug 18 = .ok (.istore_n 2, 1) := by decide +kernel
theorem dX8_unplug_19 : decode cX8_unplug 19 = .ok (.iload_n 2, 1) := by decide +kernel
theorem dX8_unplug_20 : decode cX8_unplug 20 = .ok (.iconst (-1), 1) := by decide +kernel
theorem dX8_unplug_21 : decode cX8_unplug 21 = .ok (.if_icmp .ne 6, 3) := by decide +kernel
theorem dX8_unplug_24 : decode cX8_unplug 24 = .ok (.ldc 86, 2) := by decide +kernel
theorem dX8_unplug_26 : decode cX8_unplug 26 = .ok (.ireturn, 1) := by decide +kernel
theorem dX8_unplug_27 : decode cX8_unplug 27 = .ok (.aload_n 0, 1) := by decide +kernel
theorem dX8_unplug_28 : decode cX8_unplug 28 = .ok (.invokevirtual 73, 3) := by decide +kernel
theorem dX8_unplug_31 : decode cX8_unplug 31 = .ok (.aload_n 0, 1) := by decide +kernel
theorem dX8_unplug_32 : decode cX8_unplug 32 = .ok (.iload_n 1, 1) := by decide +kernel
theorem dX8_unplug_33 : decode cX8_unplug 33 = .ok (.bipush 13, 2) := by decide +kernel
theorem dX8_unplug_35 : decode cX8_unplug 35 = .ok (.iconst (-1), 1) := by decide +kernel
theorem dX8_unplug_36 : decode cX8_unplug 36 = .ok (.invokevirtual 96, 3) := by decide +kernel
theorem dX8_unplug_39 : decode cX8_unplug 39 = .ok (.aload_n 0, 1) := by decide +kernel
theorem dX8_unplug_40 : decode cX8_unplug 40 = .ok (.iload_n 2, 1) := by decide +kernel
theorem dX8_unplug_41 : decode cX8_unplug 41 = .ok (.invokevirtual 76, 3) := by decide +kernel
theorem dX8_unplug_44 : decode cX8_unplug 44 = .ok (.ireturn, 1) := by decide +kernel
theorem dX8_slotAt_0 : decode cX8_slotAt 0 = .ok (.iload_n 1, 1) := by decide +kernel
theorem dX8_slotAt_1 : decode cX8_slotAt 1 = .ok (.iconst 0, 1) := by decide +kernel
theorem dX8_slotAt_2 : decode cX8_slotAt 2 = .ok (.iconst 3, 1) := by decide +kernel
theorem dX8_slotAt_3 : decode cX8_slotAt 3 = .ok (.invokestatic 35, 3) := by decide +kernel
theorem dX8_slotAt_6 : decode cX8_slotAt 6 = .ok (.ifCond .eq 12, 3) := by decide +kernel
theorem dX8_slotAt_9 : decode cX8_slotAt 9 = .ok (.iload_n 2, 1) := by decide +kernel
theorem dX8_slotAt_10 : decode cX8_slotAt 10 = .ok (.iconst 0, 1) := by decide +kernel
theorem dX8_slotAt_11 : decode cX8_slotAt 11 = .ok (.iconst 2, 1) := by decide +kernel
theorem dX8_slotAt_12 : decode cX8_slotAt 12 = .ok (.invokestatic 35, 3) := by decide +kernel
theorem dX8_slotAt_15 : decode cX8_slotAt 15 = .ok (.ifCond .ne 6, 3) := by decide +kernel
theorem dX8_slotAt_18 : decode cX8_slotAt 18 = .ok (.ldc 47, 2) := by decide +kernel
theorem dX8_slotAt_20 : decode cX8_slotAt 20 = .ok (.ireturn, 1) := by decide +kernel
theorem dX8_slotAt_21 : decode cX8_slotAt 21 = .ok (.aload_n 0, 1) := by decide +kernel
theorem dX8_slotAt_22 : decode cX8_slotAt 22 = .ok (.bipush 10, 2) := by decide +kernel
theorem dX8_slotAt_24 : decode cX8_slotAt 24 = .ok (.iload_n 1, 1) := by decide +kernel
theorem dX8_slotAt_25 : decode cX8_slotAt 25 = .ok (.imul, 1) := by decide +kernel
theorem dX8_slotAt_26 : decode cX8_slotAt 26 = .ok (.iload_n 2, 1) := by decide +kernel
theorem dX8_slotAt_27 : decode cX8_slotAt 27 = .ok (.iadd, 1) := by decide +kernel
theorem dX8_slotAt_28 : decode cX8_slotAt 28 = .ok (.invokevirtual 100, 3) := by decide +kernel
theorem dX8_slotAt_31 : decode cX8_slotAt 31 = .ok (.istore_n 3, 1) := by decide +kernel
theorem dX8_slotAt_32 : decode cX8_slotAt 32 = .ok (.iload_n 3, 1) := by decide +kernel
theorem dX8_slotAt_33 : decode cX8_slotAt 33 = .ok (.iconst (-1), 1) := by decide +kernel
theorem dX8_slotAt_34 : decode cX8_slotAt 34 = .ok (.if_icmp .ne 8, 3) := by decide +kernel
theorem dX8_slotAt_37 : decode cX8_slotAt 37 = .ok (.ldc 68, 2) := by decide +kernel
theorem dX8_slotAt_39 : decode cX8_slotAt 39 = .ok (.goto 4, 3) := by decide +kernel
theorem dX8_slotAt_42 : decode cX8_slotAt 42 = .ok (.iload_n 3, 1) := by decide +kernel
theorem dX8_slotAt_43 : decode cX8_slotAt 43 = .ok (.ireturn, 1) := by decide +kernel
theorem dX8_baths_0 : decode cX8_baths 0 = .ok (.aload_n 0, 1) := by decide +kernel
theorem dX8_baths_1 : decode cX8_baths 1 = .ok (.iload_n 1, 1) := by decide +kernel
theorem dX8_baths_2 : decode cX8_baths 2 = .ok (.invokevirtual 39, 3) := by decide +kernel
theorem dX8_baths_5 : decode cX8_baths 5 = .ok (.ifCond .eq 10, 3) := by decide +kernel
theorem dX8_baths_8 : decode cX8_baths 8 = .ok (.iload_n 2, 1) := by decide +kernel
theorem dX8_baths_9 : decode cX8_baths 9 = .ok (.invokestatic 82, 3) := by decide +kernel
theorem dX8_baths_12 : decode cX8_baths 12 = .ok (.ifCond .ne 6, 3) := by decide +kernel
theorem dX8_baths_15 : decode cX8_baths 15 = .ok (.ldc 47, 2) := by decide +kernel
theorem dX8_baths_17 : decode cX8_baths 17 = .ok (.ireturn, 1) := by decide +kernel
theorem dX8_baths_18 : decode cX8_baths 18 = .ok (.aload_n 0, 1) := by decide +kernel
theorem dX8_baths_19 : decode cX8_baths 19 = .ok (.aload_n 0, 1) := by decide +kernel
theorem dX8_baths_20 : decode cX8_baths 20 = .ok (.iload_n 1, 1) := by decide +kernel
theorem dX8_baths_21 : decode cX8_baths 21 = .ok (.iconst 0, 1) := by decide +kernel
theorem dX8_baths_22 : decode cX8_baths 22 = .ok (.invokevirtual 43, 3) := by decide +kernel
theorem dX8_baths_25 : decode cX8_baths 25 = .ok (.iload_n 2, 1) := by decide +kernel
theorem dX8_baths_26 : decode cX8_baths 26 = .ok (.invokevirtual 87, 3) := by decide +kernel
theorem dX8_baths_29 : decode cX8_baths 29 = .ok (.ifCond .ne 6, 3) := by decide +kernel
theorem dX8_baths_32 : decode cX8_baths 32 = .ok (.ldc 86, 2) := by decide +kernel
theorem dX8_baths_34 : decode cX8_baths 34 = .ok (.ireturn, 1) := by decide +kernel
theorem dX8_baths_35 : decode cX8_baths 35 = .ok (.aload_n 0, 1) := by decide +kernel
theorem dX8_baths_36 : decode cX8_baths 36 = .ok (.iload_n 1, 1) := by decide +kernel
theorem dX8_baths_37 : decode cX8_baths 37 = .ok (.iconst 4, 1) := by decide +kernel
theorem dX8_baths_38 : decode cX8_baths 38 = .ok (.invokevirtual 43, 3) := by decide +kernel
theorem dX8_baths_41 : decode cX8_baths 41 = .ok (.istore_n 3, 1) := by decide +kernel
theorem dX8_baths_42 : decode cX8_baths 42 = .ok (.aload_n 0, 1) := by decide +kernel
theorem dX8_baths_43 : decode cX8_baths 43 = .ok (.iload_n 1, 1) := by decide +kernel
theorem dX8_baths_44 : decode cX8_baths 44 = .ok (.iconst 4, 1) := by decide +kernel
theorem dX8_baths_45 : decode cX8_baths 45 = .ok (.iload_n 2, 1) := by decide +kernel
theorem dX8_baths_46 : decode cX8_baths 46 = .ok (.invokevirtual 96, 3) := by decide +kernel
theorem dX8_baths_49 : decode cX8_baths 49 = .ok (.iload_n 3, 1) := by decide +kernel
theorem dX8_baths_50 : decode cX8_baths 50 = .ok (.ireturn, 1) := by decide +kernel
theorem dX8_bath_0 : decode cX8_bath 0 = .ok (.aload_n 0, 1) := by decide +kernel
theorem dX8_bath_1 : decode cX8_bath 1 = .ok (.invokevirtual 73, 3) := by decide +kernel
theorem dX8_bath_4 : decode cX8_bath 4 = .ok (.aload_n 0, 1) := by decide +kernel
theorem dX8_bath_5 : decode cX8_bath 5 = .ok (.aload_n 0, 1) := by decide +kernel
theorem dX8_bath_6 : decode cX8_bath 6 = .ok (.iload_n 1, 1) := by decide +kernel
theorem dX8_bath_7 : decode cX8_bath 7 = .ok (.iload_n 2, 1) := by decide +kernel
theorem dX8_bath_8 : decode cX8_bath 8 = .ok (.invokevirtual 103, 3) := by decide +kernel
theorem dX8_bath_11 : decode cX8_bath 11 = .ok (.invokevirtual 76, 3) := by decide +kernel
theorem dX8_bath_14 : decode cX8_bath 14 = .ok (.ireturn, 1) := by decide +kernel
theorem dX8_lead_0 : decode cX8_lead 0 = .ok (.aload_n 0, 1) := by decide +kernel
theorem dX8_lead_1 : decode cX8_lead 1 = .ok (.iload_n 1, 1) := by decide +kernel
theorem dX8_lead_2 : decode cX8_lead 2 = .ok (.iload_n 2, 1) := by decide +kernel
theorem dX8_lead_3 : decode cX8_lead 3 = .ok (.invokevirtual 106, 3) := by decide +kernel
theorem dX8_lead_6 : decode cX8_lead 6 = .ok (.ifCond .eq 13, 3) := by decide +kernel
theorem dX8_lead_9 : decode cX8_lead 9 = .ok (.iload_n 3, 1) := by decide +kernel
theorem dX8_lead_10 : decode cX8_lead 10 = .ok (.iconst 0, 1) := by decide +kernel
theorem dX8_lead_11 : decode cX8_lead 11 = .ok (.ldc 109, 2) := by decide +kernel
theorem dX8_lead_13 : decode cX8_lead 13 = .ok (.invokestatic 35, 3) := by decide +kernel
theorem dX8_lead_16 : decode cX8_lead 16 = .ok (.ifCond .ne 6, 3) := by decide +kernel
theorem dX8_lead_19 : decode cX8_lead 19 = .ok (.ldc 47, 2) := by decide +kernel
theorem dX8_lead_21 : decode cX8_lead 21 = .ok (.ireturn, 1) := by decide +kernel
theorem dX8_lead_22 : decode cX8_lead 22 = .ok (.aload_n 0, 1) := by decide +kernel
theorem dX8_lead_23 : decode cX8_lead 23 = .ok (.invokevirtual 73, 3) := by decide +kernel
theorem dX8_lead_26 : decode cX8_lead 26 = .ok (.aload_n 0, 1) := by decide +kernel
theorem dX8_lead_27 : decode cX8_lead 27 = .ok (.iload_n 1, 1) := by decide +kernel
theorem dX8_lead_28 : decode cX8_lead 28 = .ok (.iconst 5, 1) := by decide +kernel
theorem dX8_lead_29 : decode cX8_lead 29 = .ok (.iload_n 2, 1) := by decide +kernel
theorem dX8_lead_30 : decode cX8_lead 30 = .ok (.iadd, 1) := by decide +kernel
theorem dX8_lead_31 : decode cX8_lead 31 = .ok (.invokevirtual 43, 3) := by decide +kernel
theorem dX8_lead_34 : decode cX8_lead 34 = .ok (.istore 4, 2) := by decide +kernel
theorem dX8_lead_36 : decode cX8_lead 36 = .ok (.aload_n 0, 1) := by decide +kernel
theorem dX8_lead_37 : decode cX8_lead 37 = .ok (.iload_n 1, 1) := by decide +kernel
theorem dX8_lead_38 : decode cX8_lead 38 = .ok (.iconst 5, 1) := by decide +kernel
theorem dX8_lead_39 : decode cX8_lead 39 = .ok (.iload_n 2, 1) := by decide +kernel
theorem dX8_lead_40 : decode cX8_lead 40 = .ok (.iadd, 1) := by decide +kernel
theorem dX8_lead_41 : decode cX8_lead 41 = .ok (.iload_n 3, 1) := by decide +kernel
theorem dX8_lead_42 : decode cX8_lead 42 = .ok (.invokevirtual 96, 3) := by decide +kernel
theorem dX8_lead_45 : decode cX8_lead 45 = .ok (.aload_n 0, 1) := by decide +kernel
theorem dX8_lead_46 : decode cX8_lead 46 = .ok (.iload 4, 2) := by decide +kernel
theorem dX8_lead_48 : decode cX8_lead 48 = .ok (.invokevirtual 76, 3) := by decide +kernel
theorem dX8_lead_51 : decode cX8_lead 51 = .ok (.ireturn, 1) := by decide +kernel
theorem dX8_strain_0 : decode cX8_strain 0 = .ok (.aload_n 0, 1) := by decide +kernel
theorem dX8_strain_1 : decode cX8_strain 1 = .ok (.iload_n 1, 1) := by decide +kernel
theorem dX8_strain_2 : decode cX8_strain 2 = .ok (.invokevirtual 39, 3) := by decide +kernel
theorem dX8_strain_5 : decode cX8_strain 5 = .ok (.ifCond .eq 51, 3) := by decide +kernel
theorem dX8_strain_8 : decode cX8_strain 8 = .ok (.iload_n 2, 1) := by decide +kernel
theorem dX8_strain_9 : decode cX8_strain 9 = .ok (.iconst 0, 1) := by decide +kernel
theorem dX8_strain_10 : decode cX8_strain 10 = .ok (.iconst 2, 1) := by decide +kernel
theorem dX8_strain_11 : decode cX8_strain 11 = .ok (.invokestatic 35, 3) := by decide +kernel
theorem dX8_strain_14 : decode cX8_strain 14 = .ok (.ifCond .eq 42, 3) := by decide +kernel
theorem dX8_strain_17 : decode cX8_strain 17 = .ok (.iload_n 3, 1) := by decide +kernel
theorem dX8_strain_18 : decode cX8_strain 18 = .ok (.iload_n 2, 1) := by decide +kernel
theorem dX8_strain_19 : decode cX8_strain 19 = .ok (.iconst 1, 1) := by decide +kernel
theorem dX8_strain_20 : decode cX8_strain 20 = .ok (.if_icmp .ne 8, 3) := by decide +kernel
theorem dX8_strain_23 : decode cX8_strain 23 = .ok (.ldc 110, 2) := by decide +kernel
theorem dX8_strain_25 : decode cX8_strain 25 = .ok (.goto 4, 3) := by decide +kernel
theorem dX8_strain_28 : decode cX8_strain 28 = .ok (.iconst 0, 1) := by decide +kernel
theorem dX8_strain_29 : decode cX8_strain 29 = .ok (.iload_n 2, 1) := by decide +kernel
theorem dX8_strain_30 : decode cX8_strain 30 = .ok (.ifCond .ne 9, 3) := by decide +kernel
theorem dX8_strain_33 : decode cX8_strain 33 = .ok (.sipush 5000, 3) := by decide +kernel
theorem dX8_strain_36 : decode cX8_strain 36 = .ok (.goto 14, 3) := by decide +kernel
theorem dX8_strain_39 : decode cX8_strain 39 = .ok (.iload_n 2, 1) := by decide +kernel
theorem dX8_strain_40 : decode cX8_strain 40 = .ok (.iconst 1, 1) := by decide +kernel
theorem dX8_strain_41 : decode cX8_strain 41 = .ok (.if_icmp .ne 8, 3) := by decide +kernel
theorem dX8_strain_44 : decode cX8_strain 44 = .ok (.ldc 32, 2) := by decide +kernel
theorem dX8_strain_46 : decode cX8_strain 46 = .ok (.goto 4, 3) := by decide +kernel
theorem dX8_strain_49 : decode cX8_strain 49 = .ok (.iconst 1, 1) := by decide +kernel
theorem dX8_strain_50 : decode cX8_strain 50 = .ok (.invokestatic 35, 3) := by decide +kernel
theorem dX8_strain_53 : decode cX8_strain 53 = .ok (.ifCond .ne 6, 3) := by decide +kernel
theorem dX8_strain_56 : decode cX8_strain 56 = .ok (.ldc 47, 2) := by decide +kernel
theorem dX8_strain_58 : decode cX8_strain 58 = .ok (.ireturn, 1) := by decide +kernel
theorem dX8_strain_59 : decode cX8_strain 59 = .ok (.aload_n 0, 1) := by decide +kernel
theorem dX8_strain_60 : decode cX8_strain 60 = .ok (.invokevirtual 73, 3) := by decide +kernel
theorem dX8_strain_63 : decode cX8_strain 63 = .ok (.aload_n 0, 1) := by decide +kernel
theorem dX8_strain_64 : decode cX8_strain 64 = .ok (.iload_n 1, 1) := by decide +kernel
theorem dX8_strain_65 : decode cX8_strain 65 = .ok (.bipush 9, 2) := by decide +kernel
theorem dX8_strain_67 : decode cX8_strain 67 = .ok (.iload_n 2, 1) := by decide +kernel
theorem dX8_strain_68 : decode cX8_strain 68 = .ok (.iadd, 1) := by decide +kernel
theorem dX8_strain_69 : decode cX8_strain 69 = .ok (.invokevirtual 43, 3) := by decide +kernel
theorem dX8_strain_72 : decode cX8_strain 72 = .ok (.istore 4, 2) := by decide +kernel
theorem dX8_strain_74 : decode cX8_strain 74 = .ok (.aload_n 0, 1) := by decide +kernel
theorem dX8_strain_75 : decode cX8_strain 75 = .ok (.iload_n 1, 1) := by decide +kernel
theorem dX8_strain_76 : decode cX8_strain 76 = .ok (.bipush 9, 2) := by decide +kernel
theorem dX8_strain_78 : decode cX8_strain 78 = .ok (.iload_n 2, 1) := by decide +kernel
theorem dX8_strain_79 : decode cX8_strain 79 = .ok (.iadd, 1) := by decide +kernel
theorem dX8_strain_80 : decode cX8_strain 80 = .ok (.iload_n 3, 1) := by decide +kernel
theorem dX8_strain_81 : decode cX8_strain 81 = .ok (.invokevirtual 96, 3) := by decide +kernel
theorem dX8_strain_84 : decode cX8_strain 84 = .ok (.aload_n 0, 1) := by decide +kernel
theorem dX8_strain_85 : decode cX8_strain 85 = .ok (.iload 4, 2) := by decide +kernel
theorem dX8_strain_87 : decode cX8_strain 87 = .ok (.invokevirtual 76, 3) := by decide +kernel
theorem dX8_strain_90 : decode cX8_strain 90 = .ok (.ireturn, 1) := by decide +kernel
theorem dX8_bits_0 : decode cX8_bits 0 = .ok (.iload_n 0, 1) := by decide +kernel
theorem dX8_bits_1 : decode cX8_bits 1 = .ok (.iconst 1, 1) := by decide +kernel
theorem dX8_bits_2 : decode cX8_bits 2 = .ok (.iand, 1) := by decide +kernel
theorem dX8_bits_3 : decode cX8_bits 3 = .ok (.iload_n 0, 1) := by decide +kernel
theorem dX8_bits_4 : decode cX8_bits 4 = .ok (.iconst 1, 1) := by decide +kernel
theorem dX8_bits_5 : decode cX8_bits 5 = .ok (.ishr, 1) := by decide +kernel
theorem dX8_bits_6 : decode cX8_bits 6 = .ok (.iconst 1, 1) := by decide +kernel
theorem dX8_bits_7 : decode cX8_bits 7 = .ok (.iand, 1) := by decide +kernel
theorem dX8_bits_8 : decode cX8_bits 8 = .ok (.iadd, 1) := by decide +kernel
theorem dX8_bits_9 : decode cX8_bits 9 = .ok (.iload_n 0, 1) := by decide +kernel
theorem dX8_bits_10 : decode cX8_bits 10 = .ok (.iconst 2, 1) := by decide +kernel
theorem dX8_bits_11 : decode cX8_bits 11 = .ok (.ishr, 1) := by decide +kernel
theorem dX8_bits_12 : decode cX8_bits 12 = .ok (.iconst 1, 1) := by decide +kernel
theorem dX8_bits_13 : decode cX8_bits 13 = .ok (.iand, 1) := by decide +kernel
theorem dX8_bits_14 : decode cX8_bits 14 = .ok (.iadd, 1) := by decide +kernel
theorem dX8_bits_15 : decode cX8_bits 15 = .ok (.iload_n 0, 1) := by decide +kernel
theorem dX8_bits_16 : decode cX8_bits 16 = .ok (.iconst 3, 1) := by decide +kernel
theorem dX8_bits_17 : decode cX8_bits 17 = .ok (.ishr, 1) := by decide +kernel
theorem dX8_bits_18 : decode cX8_bits 18 = .ok (.iconst 1, 1) := by decide +kernel
theorem dX8_bits_19 : decode cX8_bits 19 = .ok (.iand, 1) := by decide +kernel
theorem dX8_bits_20 : decode cX8_bits 20 = .ok (.iadd, 1) := by decide +kernel
theorem dX8_bits_21 : decode cX8_bits 21 = .ok (.ireturn, 1) := by decide +kernel
theorem dX8_cuts_0 : decode cX8_cuts 0 = .ok (.aload_n 0, 1) := by decide +kernel
theorem dX8_cuts_1 : decode cX8_cuts 1 = .ok (.iload_n 1, 1) := by decide +kernel
theorem dX8_cuts_2 : decode cX8_cuts 2 = .ok (.iload_n 2, 1) := by decide +kernel
theorem dX8_cuts_3 : decode cX8_cuts 3 = .ok (.invokevirtual 106, 3) := by decide +kernel
theorem dX8_cuts_6 : decode cX8_cuts 6 = .ok (.ifCond .eq 12, 3) := by decide +kernel
theorem dX8_cuts_9 : decode cX8_cuts 9 = .ok (.iload_n 3, 1) := by decide +kernel
theorem dX8_cuts_10 : decode cX8_cuts 10 = .ok (.iconst 0, 1) := by decide +kernel
theorem dX8_cuts_11 : decode cX8_cuts 11 = .ok (.iconst 1, 1) := by decide +kernel
theorem dX8_cuts_12 : decode cX8_cuts 12 = .ok (.invokestatic 35, 3) := by decide +kernel
theorem dX8_cuts_15 : decode cX8_cuts 15 = .ok (.ifCond .ne 6, 3) := by decide +kernel
theorem dX8_cuts_18 : decode cX8_cuts 18 = .ok (.ldc 47, 2) := by decide +kernel
theorem dX8_cuts_20 : decode cX8_cuts 20 = .ok (.ireturn, 1) := by decide +kernel
theorem dX8_cuts_21 : decode cX8_cuts 21 = .ok (.aload_n 0, 1) := by decide +kernel
theorem dX8_cuts_22 : decode cX8_cuts 22 = .ok (.iload_n 1, 1) := by decide +kernel
theorem dX8_cuts_23 : decode cX8_cuts 23 = .ok (.bipush 12, 2) := by decide +kernel
theorem dX8_cuts_25 : decode cX8_cuts 25 = .ok (.invokevirtual 43, 3) := by decide +kernel
theorem dX8_cuts_28 : decode cX8_cuts 28 = .ok (.iload_n 2, 1) := by decide +kernel
theorem dX8_cuts_29 : decode cX8_cuts 29 = .ok (.ishr, 1) := by decide +kernel
theorem dX8_cuts_30 : decode cX8_cuts 30 = .ok (.iconst 1, 1) := by decide +kernel
theorem dX8_cuts_31 : decode cX8_cuts 31 = .ok (.iand, 1) := by decide +kernel
theorem dX8_cuts_32 : decode cX8_cuts 32 = .ok (.iload_n 3, 1) := by decide +kernel
theorem dX8_cuts_33 : decode cX8_cuts 33 = .ok (.if_icmp .ne 6, 3) := by decide +kernel
theorem dX8_cuts_36 : decode cX8_cuts 36 = .ok (.ldc 86, 2) := by decide +kernel
theorem dX8_cuts_38 : decode cX8_cuts 38 = .ok (.ireturn, 1) := by decide +kernel
theorem dX8_cuts_39 : decode cX8_cuts 39 = .ok (.aload_n 0, 1) := by decide +kernel
theorem dX8_cuts_40 : decode cX8_cuts 40 = .ok (.iload_n 1, 1) := by decide +kernel
theorem dX8_cuts_41 : decode cX8_cuts 41 = .ok (.bipush 12, 2) := by decide +kernel
theorem dX8_cuts_43 : decode cX8_cuts 43 = .ok (.aload_n 0, 1) := by decide +kernel
theorem dX8_cuts_44 : decode cX8_cuts 44 = .ok (.iload_n 1, 1) := by decide +kernel
theorem dX8_cuts_45 : decode cX8_cuts 45 = .ok (.bipush 12, 2) := by decide +kernel
theorem dX8_cuts_47 : decode cX8_cuts 47 = .ok (.invokevirtual 43, 3) := by decide +kernel
theorem dX8_cuts_50 : decode cX8_cuts 50 = .ok (.iconst 1, 1) := by decide +kernel
theorem dX8_cuts_51 : decode cX8_cuts 51 = .ok (.iload_n 2, 1) := by decide +kernel
theorem dX8_cuts_52 : decode cX8_cuts 52 = .ok (.ishl, 1) := by decide +kernel
theorem dX8_cuts_53 : decode cX8_cuts 53 = .ok (.ixor, 1) := by decide +kernel
theorem dX8_cuts_54 : decode cX8_cuts 54 = .ok (.invokevirtual 96, 3) := by decide +kernel
theorem dX8_cuts_57 : decode cX8_cuts 57 = .ok (.aload_n 0, 1) := by decide +kernel
theorem dX8_cuts_58 : decode cX8_cuts 58 = .ok (.iload_n 1, 1) := by decide +kernel
theorem dX8_cuts_59 : decode cX8_cuts 59 = .ok (.bipush 12, 2) := by decide +kernel
theorem dX8_cuts_61 : decode cX8_cuts 61 = .ok (.invokevirtual 43, 3) := by decide +kernel
theorem dX8_cuts_64 : decode cX8_cuts 64 = .ok (.invokestatic 111, 3) := by decide +kernel
theorem dX8_cuts_67 : decode cX8_cuts 67 = .ok (.ireturn, 1) := by decide +kernel
theorem dX8_cut_0 : decode cX8_cut 0 = .ok (.aload_n 0, 1) := by decide +kernel
theorem dX8_cut_1 : decode cX8_cut 1 = .ok (.invokevirtual 73, 3) := by decide +kernel
theorem dX8_cut_4 : decode cX8_cut 4 = .ok (.aload_n 0, 1) := by decide +kernel
theorem dX8_cut_5 : decode cX8_cut 5 = .ok (.aload_n 0, 1) := by decide +kernel
theorem dX8_cut_6 : decode cX8_cut 6 = .ok (.iload_n 1, 1) := by decide +kernel
theorem dX8_cut_7 : decode cX8_cut 7 = .ok (.iload_n 2, 1) := by decide +kernel
theorem dX8_cut_8 : decode cX8_cut 8 = .ok (.iload_n 3, 1) := by decide +kernel
theorem dX8_cut_9 : decode cX8_cut 9 = .ok (.invokevirtual 114, 3) := by decide +kernel
theorem dX8_cut_12 : decode cX8_cut 12 = .ok (.invokevirtual 76, 3) := by decide +kernel
theorem dX8_cut_15 : decode cX8_cut 15 = .ok (.ireturn, 1) := by decide +kernel
theorem dX8_isBase_0 : decode cX8_isBase 0 = .ok (.lload_n 0, 1) := by decide +kernel
theorem dX8_isBase_1 : decode cX8_isBase 1 = .ok (.ldc2_w 118, 3) := by decide +kernel
theorem dX8_isBase_4 : decode cX8_isBase 4 = .ok (.lcmp, 1) := by decide +kernel
theorem dX8_isBase_5 : decode cX8_isBase 5 = .ok (.ifCond .lt 15, 3) := by decide +kernel
theorem dX8_isBase_8 : decode cX8_isBase 8 = .ok (.lload_n 0, 1) := by decide +kernel
theorem dX8_isBase_9 : decode cX8_isBase 9 = .ok (.ldc2_w 120, 3) := by decide +kernel
theorem dX8_isBase_12 : decode cX8_isBase 12 = .ok (.lcmp, 1) := by decide +kernel
theorem dX8_isBase_13 : decode cX8_isBase 13 = .ok (.ifCond .gt 7, 3) := by decide +kernel
theorem dX8_isBase_16 : decode cX8_isBase 16 = .ok (.iconst 1, 1) := by decide +kernel
theorem dX8_isBase_17 : decode cX8_isBase 17 = .ok (.goto 4, 3) := by decide +kernel
theorem dX8_isBase_20 : decode cX8_isBase 20 = .ok (.iconst 0, 1) := by decide +kernel
theorem dX8_isBase_21 : decode cX8_isBase 21 = .ok (.ireturn, 1) := by decide +kernel
theorem dX8_drift_0 : decode cX8_drift 0 = .ok (.aload_n 0, 1) := by decide +kernel
theorem dX8_drift_1 : decode cX8_drift 1 = .ok (.iload_n 1, 1) := by decide +kernel
theorem dX8_drift_2 : decode cX8_drift 2 = .ok (.invokevirtual 39, 3) := by decide +kernel
theorem dX8_drift_5 : decode cX8_drift 5 = .ok (.ifCond .eq 14, 3) := by decide +kernel
theorem dX8_drift_8 : decode cX8_drift 8 = .ok (.iload_n 2, 1) := by decide +kernel
theorem dX8_drift_9 : decode cX8_drift 9 = .ok (.ldc 110, 2) := by decide +kernel
theorem dX8_drift_11 : decode cX8_drift 11 = .ok (.ldc 32, 2) := by decide +kernel
theorem dX8_drift_13 : decode cX8_drift 13 = .ok (.invokestatic 35, 3) := by decide +kernel
theorem dX8_drift_16 : decode cX8_drift 16 = .ok (.ifCond .ne 6, 3) := by decide +kernel
theorem dX8_drift_19 : decode cX8_drift 19 = .ok (.ldc 47, 2) := by decide +kernel
theorem dX8_drift_21 : decode cX8_drift 21 = .ok (.ireturn, 1) := by decide +kernel
theorem dX8_drift_22 : decode cX8_drift 22 = .ok (.aload_n 0, 1) := by decide +kernel
theorem dX8_drift_23 : decode cX8_drift 23 = .ok (.iload_n 1, 1) := by decide +kernel
theorem dX8_drift_24 : decode cX8_drift 24 = .ok (.iconst 2, 1) := by decide +kernel
theorem dX8_drift_25 : decode cX8_drift 25 = .ok (.invokevirtual 43, 3) := by decide +kernel
theorem dX8_drift_28 : decode cX8_drift 28 = .ok (.i2l, 1) := by decide +kernel
theorem dX8_drift_29 : decode cX8_drift 29 = .ok (.ldc2_w 122, 3) := by decide +kernel
theorem dX8_drift_32 : decode cX8_drift 32 = .ok (.iload_n 2, 1) := by decide +kernel
theorem dX8_drift_33 : decode cX8_drift 33 = .ok (.i2l, 1) := by decide +kernel
theorem dX8_drift_34 : decode cX8_drift 34 = .ok (.ladd, 1) := by decide +kernel
theorem dX8_drift_35 : decode cX8_drift 35 = .ok (.lmul, 1) := by decide +kernel
theorem dX8_drift_36 : decode cX8_drift 36 = .ok (.ldc2_w 122, 3) := by decide +kernel
theorem dX8_drift_39 : decode cX8_drift 39 = .ok (.ldiv, 1) := by decide +kernel
theorem dX8_drift_40 : decode cX8_drift 40 = .ok (.lstore_n 3, 1) := by decide +kernel
theorem dX8_drift_41 : decode cX8_drift 41 = .ok (.lload_n 3, 1) := by decide +kernel
theorem dX8_drift_42 : decode cX8_drift 42 = .ok (.invokestatic 124, 3) := by decide +kernel
theorem dX8_drift_45 : decode cX8_drift 45 = .ok (.ifCond .ne 6, 3) := by decide +kernel
theorem dX8_drift_48 : decode cX8_drift 48 = .ok (.ldc 86, 2) := by decide +kernel
theorem dX8_drift_50 : decode cX8_drift 50 = .ok (.ireturn, 1) := by decide +kernel
theorem dX8_drift_51 : decode cX8_drift 51 = .ok (.aload_n 0, 1) := by decide +kernel
theorem dX8_drift_52 : decode cX8_drift 52 = .ok (.invokevirtual 73, 3) := by decide +kernel
theorem dX8_drift_55 : decode cX8_drift 55 = .ok (.aload_n 0, 1) := by decide +kernel
theorem dX8_drift_56 : decode cX8_drift 56 = .ok (.iload_n 1, 1) := by decide +kernel
theorem dX8_drift_57 : decode cX8_drift 57 = .ok (.iconst 2, 1) := by decide +kernel
theorem dX8_drift_58 : decode cX8_drift 58 = .ok (.lload_n 3, 1) := by decide +kernel
theorem dX8_drift_59 : decode cX8_drift 59 = .ok (.l2i, 1) := by decide +kernel
theorem dX8_drift_60 : decode cX8_drift 60 = .ok (.invokevirtual 96, 3) := by decide +kernel
theorem dX8_drift_63 : decode cX8_drift 63 = .ok (.aload_n 0, 1) := by decide +kernel
theorem dX8_drift_64 : decode cX8_drift 64 = .ok (.lload_n 3, 1) := by decide +kernel
theorem dX8_drift_65 : decode cX8_drift 65 = .ok (.l2i, 1) := by decide +kernel
theorem dX8_drift_66 : decode cX8_drift 66 = .ok (.invokevirtual 76, 3) := by decide +kernel
theorem dX8_drift_69 : decode cX8_drift 69 = .ok (.ireturn, 1) := by decide +kernel
theorem dX8_calibrate_0 : decode cX8_calibrate 0 = .ok (.aload_n 0, 1) := by decide +kernel
theorem dX8_calibrate_1 : decode cX8_calibrate 1 = .ok (.iload_n 1, 1) := by decide +kernel
theorem dX8_calibrate_2 : decode cX8_calibrate 2 = .ok (.invokevirtual 39, 3) := by decide +kernel
theorem dX8_calibrate_5 : decode cX8_calibrate 5 = .ok (.ifCond .eq 10, 3) := by decide +kernel
theorem dX8_calibrate_8 : decode cX8_calibrate 8 = .ok (.iload_n 2, 1) := by decide +kernel
theorem dX8_calibrate_9 : decode cX8_calibrate 9 = .ok (.invokestatic 82, 3) := by decide +kernel
theorem dX8_calibrate_12 : decode cX8_calibrate 12 = .ok (.ifCond .ne 6, 3) := by decide +kernel
theorem dX8_calibrate_15 : decode cX8_calibrate 15 = .ok (.ldc 47, 2) := by decide +kernel
theorem dX8_calibrate_17 : decode cX8_calibrate 17 = .ok (.ireturn, 1) := by decide +kernel
theorem dX8_calibrate_18 : decode cX8_calibrate 18 = .ok (.aload_n 0, 1) := by decide +kernel
theorem dX8_calibrate_19 : decode cX8_calibrate 19 = .ok (.iload_n 1, 1) := by decide +kernel
theorem dX8_calibrate_20 : decode cX8_calibrate 20 = .ok (.invokevirtual 128, 3) := by decide +kernel
theorem dX8_calibrate_23 : decode cX8_calibrate 23 = .ok (.iconst 1, 1) := by decide +kernel
theorem dX8_calibrate_24 : decode cX8_calibrate 24 = .ok (.iconst 4, 1) := by decide +kernel
theorem dX8_calibrate_25 : decode cX8_calibrate 25 = .ok (.invokestatic 35, 3) := by decide +kernel
theorem dX8_calibrate_28 : decode cX8_calibrate 28 = .ok (.ifCond .ne 17, 3) := by decide +kernel
theorem dX8_calibrate_31 : decode cX8_calibrate 31 = .ok (.aload_n 0, 1) := by decide +kernel
theorem dX8_calibrate_32 : decode cX8_calibrate 32 = .ok (.aload_n 0, 1) := by decide +kernel
theorem dX8_calibrate_33 : decode cX8_calibrate 33 = .ok (.iload_n 1, 1) := by decide +kernel
theorem dX8_calibrate_34 : decode cX8_calibrate 34 = .ok (.iconst 0, 1) := by decide +kernel
theorem dX8_calibrate_35 : decode cX8_calibrate 35 = .ok (.invokevirtual 43, 3) := by decide +kernel
theorem dX8_calibrate_38 : decode cX8_calibrate 38 = .ok (.iload_n 2, 1) := by decide +kernel
theorem dX8_calibrate_39 : decode cX8_calibrate 39 = .ok (.invokevirtual 87, 3) := by decide +kernel
theorem dX8_calibrate_42 : decode cX8_calibrate 42 = .ok (.ifCond .ne 6, 3) := by decide +kernel
theorem dX8_calibrate_45 : decode cX8_calibrate 45 = .ok (.ldc 86, 2) := by decide +kernel
theorem dX8_calibrate_47 : decode cX8_calibrate 47 = .ok (.ireturn, 1) := by decide +kernel
theorem dX8_calibrate_48 : decode cX8_calibrate 48 = .ok (.aload_n 0, 1) := by decide +kernel
theorem dX8_calibrate_49 : decode cX8_calibrate 49 = .ok (.iload_n 1, 1) := by decide +kernel
theorem dX8_calibrate_50 : decode cX8_calibrate 50 = .ok (.invokevirtual 131, 3) := by decide +kernel
theorem dX8_calibrate_53 : decode cX8_calibrate 53 = .ok (.ldc2_w 122, 3) := by decide +kernel
theorem dX8_calibrate_56 : decode cX8_calibrate 56 = .ok (.lmul, 1) := by decide +kernel
theorem dX8_calibrate_57 : decode cX8_calibrate 57 = .ok (.aload_n 0, 1) := by decide +kernel
theorem dX8_calibrate_58 : decode cX8_calibrate 58 = .ok (.aload_n 0, 1) := by decide +kernel
theorem dX8_calibrate_59 : decode cX8_calibrate 59 = .ok (.iload_n 1, 1) := by decide +kernel
theorem dX8_calibrate_60 : decode cX8_calibrate 60 = .ok (.iconst 0, 1) := by decide +kernel
theorem dX8_calibrate_61 : decode cX8_calibrate 61 = .ok (.invokevirtual 43, 3) := by decide +kernel
theorem dX8_calibrate_64 : decode cX8_calibrate 64 = .ok (.iload_n 2, 1) := by decide +kernel
theorem dX8_calibrate_65 : decode cX8_calibrate 65 = .ok (.invokevirtual 69, 3) := by decide +kernel
theorem dX8_calibrate_68 : decode cX8_calibrate 68 = .ok (.i2l, 1) := by decide +kernel
theorem dX8_calibrate_69 : decode cX8_calibrate 69 = .ok (.ldiv, 1) := by decide +kernel
theorem dX8_calibrate_70 : decode cX8_calibrate 70 = .ok (.lstore_n 3, 1) := by decide +kernel
theorem dX8_calibrate_71 : decode cX8_calibrate 71 = .ok (.lload_n 3, 1) := by decide +kernel
theorem dX8_calibrate_72 : decode cX8_calibrate 72 = .ok (.invokestatic 124, 3) := by decide +kernel
theorem dX8_calibrate_75 : decode cX8_calibrate 75 = .ok (.ifCond .ne 6, 3) := by decide +kernel
theorem dX8_calibrate_78 : decode cX8_calibrate 78 = .ok (.ldc 86, 2) := by decide +kernel
theorem dX8_calibrate_80 : decode cX8_calibrate 80 = .ok (.ireturn, 1) := by decide +kernel
theorem dX8_calibrate_81 : decode cX8_calibrate 81 = .ok (.aload_n 0, 1) := by decide +kernel
theorem dX8_calibrate_82 : decode cX8_calibrate 82 = .ok (.invokevirtual 73, 3) := by decide +kernel
theorem dX8_calibrate_85 : decode cX8_calibrate 85 = .ok (.aload_n 0, 1) := by decide +kernel
theorem dX8_calibrate_86 : decode cX8_calibrate 86 = .ok (.iload_n 1, 1) := by decide +kernel
theorem dX8_calibrate_87 : decode cX8_calibrate 87 = .ok (.iconst 3, 1) := by decide +kernel
theorem dX8_calibrate_88 : decode cX8_calibrate 88 = .ok (.lload_n 3, 1) := by decide +kernel
theorem dX8_calibrate_89 : decode cX8_calibrate 89 = .ok (.l2i, 1) := by decide +kernel
theorem dX8_calibrate_90 : decode cX8_calibrate 90 = .ok (.invokevirtual 96, 3) := by decide +kernel
theorem dX8_calibrate_93 : decode cX8_calibrate 93 = .ok (.aload_n 0, 1) := by decide +kernel
theorem dX8_calibrate_94 : decode cX8_calibrate 94 = .ok (.lload_n 3, 1) := by decide +kernel
theorem dX8_calibrate_95 : decode cX8_calibrate 95 = .ok (.l2i, 1) := by decide +kernel
theorem dX8_calibrate_96 : decode cX8_calibrate 96 = .ok (.invokevirtual 76, 3) := by decide +kernel
theorem dX8_calibrate_99 : decode cX8_calibrate 99 = .ok (.ireturn, 1) := by decide +kernel
theorem dX8_limits_0 : decode cX8_limits 0 = .ok (.aload_n 0, 1) := by decide +kernel
theorem dX8_limits_1 : decode cX8_limits 1 = .ok (.iload_n 1, 1) := by decide +kernel
theorem dX8_limits_2 : decode cX8_limits 2 = .ok (.invokevirtual 39, 3) := by decide +kernel
theorem dX8_limits_5 : decode cX8_limits 5 = .ok (.ifCond .eq 31, 3) := by decide +kernel
theorem dX8_limits_8 : decode cX8_limits 8 = .ok (.iload_n 2, 1) := by decide +kernel
theorem dX8_limits_9 : decode cX8_limits 9 = .ok (.invokestatic 82, 3) := by decide +kernel
theorem dX8_limits_12 : decode cX8_limits 12 = .ok (.ifCond .eq 24, 3) := by decide +kernel
theorem dX8_limits_15 : decode cX8_limits 15 = .ok (.iload_n 3, 1) := by decide +kernel
theorem dX8_limits_16 : decode cX8_limits 16 = .ok (.iload_n 2, 1) := by decide +kernel
theorem dX8_limits_17 : decode cX8_limits 17 = .ok (.ldc 34, 2) := by decide +kernel
theorem dX8_limits_19 : decode cX8_limits 19 = .ok (.invokestatic 35, 3) := by decide +kernel
theorem dX8_limits_22 : decode cX8_limits 22 = .ok (.ifCond .eq 14, 3) := by decide +kernel
theorem dX8_limits_25 : decode cX8_limits 25 = .ok (.iload 4, 2) := by decide +kernel
theorem dX8_limits_27 : decode cX8_limits 27 = .ok (.iconst 0, 1) := by decide +kernel
theorem dX8_limits_28 : decode cX8_limits 28 = .ok (.ldc 32, 2) := by decide +kernel
theorem dX8_limits_30 : decode cX8_limits 30 = .ok (.invokestatic 35, 3) := by decide +kernel
theorem dX8_limits_33 : decode cX8_limits 33 = .ok (.ifCond .ne 6, 3) := by decide +kernel
theorem dX8_limits_36 : decode cX8_limits 36 = .ok (.ldc 47, 2) := by decide +kernel
theorem dX8_limits_38 : decode cX8_limits 38 = .ok (.ireturn, 1) := by decide +kernel
theorem dX8_limits_39 : decode cX8_limits 39 = .ok (.aload_n 0, 1) := by decide +kernel
theorem dX8_limits_40 : decode cX8_limits 40 = .ok (.invokevirtual 73, 3) := by decide +kernel
theorem dX8_limits_43 : decode cX8_limits 43 = .ok (.aload_n 0, 1) := by decide +kernel
theorem dX8_limits_44 : decode cX8_limits 44 = .ok (.iload_n 1, 1) := by decide +kernel
theorem dX8_limits_45 : decode cX8_limits 45 = .ok (.bipush 17, 2) := by decide +kernel
theorem dX8_limits_47 : decode cX8_limits 47 = .ok (.invokevirtual 43, 3) := by decide +kernel
theorem dX8_limits_50 : decode cX8_limits 50 = .ok (.istore 5, 2) := by decide +kernel
theorem dX8_limits_52 : decode cX8_limits 52 = .ok (.aload_n 0, 1) := by decide +kernel
theorem dX8_limits_53 : decode cX8_limits 53 = .ok (.iload_n 1, 1) := by decide +kernel
theorem dX8_limits_54 : decode cX8_limits 54 = .ok (.bipush 14, 2) := by decide +kernel
theorem dX8_limits_56 : decode cX8_limits 56 = .ok (.iload_n 2, 1) := by decide +kernel
theorem dX8_limits_57 : decode cX8_limits 57 = .ok (.invokevirtual 96, 3) := by decide +kernel
theorem dX8_limits_60 : decode cX8_limits 60 = .ok (.aload_n 0, 1) := by decide +kernel
theorem dX8_limits_61 : decode cX8_limits 61 = .ok (.iload_n 1, 1) := by decide +kernel
theorem dX8_limits_62 : decode cX8_limits 62 = .ok (.bipush 15, 2) := by decide +kernel
theorem dX8_limits_64 : decode cX8_limits 64 = .ok (.iload_n 3, 1) := by decide +kernel
theorem dX8_limits_65 : decode cX8_limits 65 = .ok (.invokevirtual 96, 3) := by decide +kernel
theorem dX8_limits_68 : decode cX8_limits 68 = .ok (.aload_n 0, 1) := by decide +kernel
theorem dX8_limits_69 : decode cX8_limits 69 = .ok (.iload_n 1, 1) := by decide +kernel
theorem dX8_limits_70 : decode cX8_limits 70 = .ok (.bipush 16, 2) := by decide +kernel
theorem dX8_limits_72 : decode cX8_limits 72 = .ok (.iload 4, 2) := by decide +kernel
theorem dX8_limits_74 : decode cX8_limits 74 = .ok (.invokevirtual 96, 3) := by decide +kernel
theorem dX8_limits_77 : decode cX8_limits 77 = .ok (.aload_n 0, 1) := by decide +kernel
theorem dX8_limits_78 : decode cX8_limits 78 = .ok (.iload_n 1, 1) := by decide +kernel
theorem dX8_limits_79 : decode cX8_limits 79 = .ok (.bipush 17, 2) := by decide +kernel
theorem dX8_limits_81 : decode cX8_limits 81 = .ok (.iconst 0, 1) := by decide +kernel
theorem dX8_limits_82 : decode cX8_limits 82 = .ok (.invokevirtual 96, 3) := by decide +kernel
theorem dX8_limits_85 : decode cX8_limits 85 = .ok (.aload_n 0, 1) := by decide +kernel
theorem dX8_limits_86 : decode cX8_limits 86 = .ok (.iload 5, 2) := by decide +kernel
theorem dX8_limits_88 : decode cX8_limits 88 = .ok (.invokevirtual 76, 3) := by decide +kernel
theorem dX8_limits_91 : decode cX8_limits 91 = .ok (.ireturn, 1) := by decide +kernel
theorem dX8_sensorOf_0 : decode cX8_sensorOf 0 = .ok (.aload_n 0, 1) := by decide +kernel
theorem dX8_sensorOf_1 : decode cX8_sensorOf 1 = .ok (.iload_n 1, 1) := by decide +kernel
theorem dX8_sensorOf_2 : decode cX8_sensorOf 2 = .ok (.invokevirtual 39, 3) := by decide +kernel
theorem dX8_sensorOf_5 : decode cX8_sensorOf 5 = .ok (.ifCond .eq 13, 3) := by decide +kernel
theorem dX8_sensorOf_8 : decode cX8_sensorOf 8 = .ok (.iload_n 2, 1) := by decide +kernel
theorem dX8_sensorOf_9 : decode cX8_sensorOf 9 = .ok (.iconst 0, 1) := by decide +kernel
theorem dX8_sensorOf_10 : decode cX8_sensorOf 10 = .ok (.bipush 18, 2) := by decide +kernel
theorem dX8_sensorOf_12 : decode cX8_sensorOf 12 = .ok (.invokestatic 35, 3) := by decide +kernel
theorem dX8_sensorOf_15 : decode cX8_sensorOf 15 = .ok (.ifCond .ne 6, 3) := by decide +kernel
theorem dX8_sensorOf_18 : decode cX8_sensorOf 18 = .ok (.ldc 47, 2) := by decide +kernel
theorem dX8_sensorOf_20 : decode cX8_sensorOf 20 = .ok (.ireturn, 1) := by decide +kernel
theorem dX8_sensorOf_21 : decode cX8_sensorOf 21 = .ok (.iload_n 2, 1) := by decide +kernel
theorem dX8_sensorOf_22 : decode cX8_sensorOf 22 = .ok (.iconst 5, 1) := by decide +kernel
theorem dX8_sensorOf_23 : decode cX8_sensorOf 23 = .ok (.bipush 8, 2) := by decide +kernel
theorem dX8_sensorOf_25 : decode cX8_sensorOf 25 = .ok (.invokestatic 35, 3) := by decide +kernel
theorem dX8_sensorOf_28 : decode cX8_sensorOf 28 = .ok (.ifCond .eq 15, 3) := by decide +kernel
theorem dX8_sensorOf_31 : decode cX8_sensorOf 31 = .ok (.iload_n 2, 1) := by decide +kernel
theorem dX8_sensorOf_32 : decode cX8_sensorOf 32 = .ok (.iconst 5, 1) := by decide +kernel
theorem dX8_sensorOf_33 : decode cX8_sensorOf 33 = .ok (.isub, 1) := by decide +kernel
theorem dX8_sensorOf_34 : decode cX8_sensorOf 34 = .ok (.aload_n 0, 1) := by decide +kernel
theorem dX8_sensorOf_35 : decode cX8_sensorOf 35 = .ok (.iload_n 1, 1) := by decide +kernel
theorem dX8_sensorOf_36 : decode cX8_sensorOf 36 = .ok (.iconst 1, 1) := by decide +kernel
theorem dX8_sensorOf_37 : decode cX8_sensorOf 37 = .ok (.invokevirtual 43, 3) := by decide +kernel
theorem dX8_sensorOf_40 : decode cX8_sensorOf 40 = .ok (.if_icmp .ge 20, 3) := by decide +kernel
theorem dX8_sensorOf_43 : decode cX8_sensorOf 43 = .ok (.iload_n 2, 1) := by decide +kernel
theorem dX8_sensorOf_44 : decode cX8_sensorOf 44 = .ok (.bipush 13, 2) := by decide +kernel
theorem dX8_sensorOf_46 : decode cX8_sensorOf 46 = .ok (.if_icmp .ne 18, 3) := by decide +kernel
theorem dX8_sensorOf_49 : decode cX8_sensorOf 49 = .ok (.aload_n 0, 1) := by decide +kernel
theorem dX8_sensorOf_50 : decode cX8_sensorOf 50 = .ok (.iload_n 1, 1) := by decide +kernel
theorem dX8_sensorOf_51 : decode cX8_sensorOf 51 = .ok (.bipush 13, 2) := by decide +kernel
theorem dX8_sensorOf_53 : decode cX8_sensorOf 53 = .ok (.invokevirtual 43, 3) := by decide +kernel
theorem dX8_sensorOf_56 : decode cX8_sensorOf 56 = .ok (.iconst (-1), 1) := by decide +kernel
theorem dX8_sensorOf_57 : decode cX8_sensorOf 57 = .ok (.if_icmp .ne 7, 3) := by decide +kernel
theorem dX8_sensorOf_60 : decode cX8_sensorOf 60 = .ok (.iconst 1, 1) := by decide +kernel
theorem dX8_sensorOf_61 : decode cX8_sensorOf 61 = .ok (.goto 4, 3) := by decide +kernel
theorem dX8_sensorOf_64 : decode cX8_sensorOf 64 = .ok (.iconst 0, 1) := by decide +kernel
theorem dX8_sensorOf_65 : decode cX8_sensorOf 65 = .ok (.istore_n 3, 1) := by decide +kernel
theorem dX8_sensorOf_66 : decode cX8_sensorOf 66 = .ok (.iload_n 3, 1) := by decide +kernel
theorem dX8_sensorOf_67 : decode cX8_sensorOf 67 = .ok (.ifCond .eq 8, 3) := by decide +kernel
theorem dX8_sensorOf_70 : decode cX8_sensorOf 70 = .ok (.ldc 68, 2) := by decide +kernel
theorem dX8_sensorOf_72 : decode cX8_sensorOf 72 = .ok (.goto 9, 3) := by decide +kernel
theorem dX8_sensorOf_75 : decode cX8_sensorOf 75 = .ok (.aload_n 0, 1) := by decide +kernel
theorem dX8_sensorOf_76 : decode cX8_sensorOf 76 = .ok (.iload_n 1, 1) := by decide +kernel
theorem dX8_sensorOf_77 : decode cX8_sensorOf 77 = .ok (.iload_n 2, 1) := by decide +kernel
theorem dX8_sensorOf_78 : decode cX8_sensorOf 78 = .ok (.invokevirtual 43, 3) := by decide +kernel
theorem dX8_sensorOf_81 : decode cX8_sensorOf 81 = .ok (.ireturn, 1) := by decide +kernel
theorem dX8_least_0 : decode cX8_least 0 = .ok (.iload_n 0, 1) := by decide +kernel
theorem dX8_least_1 : decode cX8_least 1 = .ok (.ifCond .ne 9, 3) := by decide +kernel
theorem dX8_least_4 : decode cX8_least 4 = .ok (.sipush 10000, 3) := by decide +kernel
theorem dX8_least_7 : decode cX8_least 7 = .ok (.goto 39, 3) := by decide +kernel
theorem dX8_least_10 : decode cX8_least 10 = .ok (.iload_n 0, 1) := by decide +kernel
theorem dX8_least_11 : decode cX8_least 11 = .ok (.iconst 1, 1) := by decide +kernel
theorem dX8_least_12 : decode cX8_least 12 = .ok (.if_icmp .eq 8, 3) := by decide +kernel
theorem dX8_least_15 : decode cX8_least 15 = .ok (.iload_n 0, 1) := by decide +kernel
theorem dX8_least_16 : decode cX8_least 16 = .ok (.iconst 2, 1) := by decide +kernel
theorem dX8_least_17 : decode cX8_least 17 = .ok (.if_icmp .ne 8, 3) := by decide +kernel
theorem dX8_least_20 : decode cX8_least 20 = .ok (.bipush 100, 2) := by decide +kernel
theorem dX8_least_22 : decode cX8_least 22 = .ok (.goto 24, 3) := by decide +kernel
theorem dX8_least_25 : decode cX8_least 25 = .ok (.iload_n 0, 1) := by decide +kernel
theorem dX8_least_26 : decode cX8_least 26 = .ok (.iconst 3, 1) := by decide +kernel
theorem dX8_least_27 : decode cX8_least 27 = .ok (.if_icmp .ne 8, 3) := by decide +kernel
theorem dX8_least_30 : decode cX8_least 30 = .ok (.bipush 8, 2) := by decide +kernel
theorem dX8_least_32 : decode cX8_least 32 = .ok (.goto 14, 3) := by decide +kernel
theorem dX8_least_35 : decode cX8_least 35 = .ok (.iload_n 0, 1) := by decide +kernel
theorem dX8_least_36 : decode cX8_least 36 = .ok (.bipush 6, 2) := by decide +kernel
theorem dX8_least_38 : decode cX8_least 38 = .ok (.if_icmp .ne 7, 3) := by decide +kernel
theorem dX8_least_41 : decode cX8_least 41 = .ok (.iconst 1, 1) := by decide +kernel
theorem dX8_least_42 : decode cX8_least 42 = .ok (.goto 4, 3) := by decide +kernel
theorem dX8_least_45 : decode cX8_least 45 = .ok (.iconst 0, 1) := by decide +kernel
theorem dX8_least_46 : decode cX8_least 46 = .ok (.ireturn, 1) := by decide +kernel
theorem dX8_most_0 : decode cX8_most 0 = .ok (.iload_n 0, 1) := by decide +kernel
theorem dX8_most_1 : decode cX8_most 1 = .ok (.tableswitch 55 0 5 #[39, 42, 42, 46, 49, 52], 39) := by decide +kernel
theorem dX8_most_40 : decode cX8_most 40 = .ok (.ldc 135, 2) := by decide +kernel
theorem dX8_most_42 : decode cX8_most 42 = .ok (.ireturn, 1) := by decide +kernel
theorem dX8_most_43 : decode cX8_most 43 = .ok (.sipush 5000, 3) := by decide +kernel
theorem dX8_most_46 : decode cX8_most 46 = .ok (.ireturn, 1) := by decide +kernel
theorem dX8_most_47 : decode cX8_most 47 = .ok (.bipush 24, 2) := by decide +kernel
theorem dX8_most_49 : decode cX8_most 49 = .ok (.ireturn, 1) := by decide +kernel
theorem dX8_most_50 : decode cX8_most 50 = .ok (.ldc 109, 2) := by decide +kernel
theorem dX8_most_52 : decode cX8_most 52 = .ok (.ireturn, 1) := by decide +kernel
theorem dX8_most_53 : decode cX8_most 53 = .ok (.ldc 32, 2) := by decide +kernel
theorem dX8_most_55 : decode cX8_most 55 = .ok (.ireturn, 1) := by decide +kernel
theorem dX8_most_56 : decode cX8_most 56 = .ok (.bipush 9, 2) := by decide +kernel
theorem dX8_most_58 : decode cX8_most 58 = .ok (.ireturn, 1) := by decide +kernel
theorem dX8_set_0 : decode cX8_set 0 = .ok (.iload_n 1, 1) := by decide +kernel
theorem dX8_set_1 : decode cX8_set 1 = .ok (.iconst 0, 1) := by decide +kernel
theorem dX8_set_2 : decode cX8_set 2 = .ok (.bipush 6, 2) := by decide +kernel
theorem dX8_set_4 : decode cX8_set 4 = .ok (.invokestatic 35, 3) := by decide +kernel
theorem dX8_set_7 : decode cX8_set 7 = .ok (.ifCond .eq 18, 3) := by decide +kernel
theorem dX8_set_10 : decode cX8_set 10 = .ok (.iload_n 2, 1) := by decide +kernel
theorem dX8_set_11 : decode cX8_set 11 = .ok (.iload_n 1, 1) := by decide +kernel
theorem dX8_set_12 : decode cX8_set 12 = .ok (.invokestatic 136, 3) := by decide +kernel
theorem dX8_set_15 : decode cX8_set 15 = .ok (.iload_n 1, 1) := by decide +kernel
theorem dX8_set_16 : decode cX8_set 16 = .ok (.invokestatic 139, 3) := by decide +kernel
theorem dX8_set_19 : decode cX8_set 19 = .ok (.invokestatic 35, 3) := by decide +kernel
theorem dX8_set_22 : decode cX8_set 22 = .ok (.ifCond .ne 6, 3) := by decide +kernel
theorem dX8_set_25 : decode cX8_set 25 = .ok (.ldc 47, 2) := by decide +kernel
theorem dX8_set_27 : decode cX8_set 27 = .ok (.ireturn, 1) := by decide +kernel
theorem dX8_set_28 : decode cX8_set 28 = .ok (.aload_n 0, 1) := by decide +kernel
theorem dX8_set_29 : decode cX8_set 29 = .ok (.invokevirtual 73, 3) := by decide +kernel
theorem dX8_set_32 : decode cX8_set 32 = .ok (.aload_n 0, 1) := by decide +kernel
theorem dX8_set_33 : decode cX8_set 33 = .ok (.getfield 7, 3) := by decide +kernel
theorem dX8_set_36 : decode cX8_set 36 = .ok (.iconst 2, 1) := by decide +kernel
theorem dX8_set_37 : decode cX8_set 37 = .ok (.iload_n 1, 1) := by decide +kernel
theorem dX8_set_38 : decode cX8_set 38 = .ok (.iadd, 1) := by decide +kernel
theorem dX8_set_39 : decode cX8_set 39 = .ok (.iaload, 1) := by decide +kernel
theorem dX8_set_40 : decode cX8_set 40 = .ok (.istore_n 3, 1) := by decide +kernel
theorem dX8_set_41 : decode cX8_set 41 = .ok (.aload_n 0, 1) := by decide +kernel
theorem dX8_set_42 : decode cX8_set 42 = .ok (.getfield 7, 3) := by decide +kernel
theorem dX8_set_45 : decode cX8_set 45 = .ok (.iconst 2, 1) := by decide +kernel
theorem dX8_set_46 : decode cX8_set 46 = .ok (.iload_n 1, 1) := by decide +kernel
theorem dX8_set_47 : decode cX8_set 47 = .ok (.iadd, 1) := by decide +kernel
theorem dX8_set_48 : decode cX8_set 48 = .ok (.iload_n 2, 1) := by decide +kernel
theorem dX8_set_49 : decode cX8_set 49 = .ok (.iastore, 1) := by decide +kernel
theorem dX8_set_50 : decode cX8_set 50 = .ok (.aload_n 0, 1) := by decide +kernel
theorem dX8_set_51 : decode cX8_set 51 = .ok (.iload_n 3, 1) := by decide +kernel
theorem dX8_set_52 : decode cX8_set 52 = .ok (.invokevirtual 76, 3) := by decide +kernel
theorem dX8_set_55 : decode cX8_set 55 = .ok (.ireturn, 1) := by decide +kernel
theorem dX8_resistance_0 : decode cX8_resistance 0 = .ok (.aload_n 0, 1) := by decide +kernel
theorem dX8_resistance_1 : decode cX8_resistance 1 = .ok (.iload_n 1, 1) := by decide +kernel
theorem dX8_resistance_2 : decode cX8_resistance 2 = .ok (.iconst 2, 1) := by decide +kernel
theorem dX8_resistance_3 : decode cX8_resistance 3 = .ok (.invokevirtual 43, 3) := by decide +kernel
theorem dX8_resistance_6 : decode cX8_resistance 6 = .ok (.i2l, 1) := by decide +kernel
theorem dX8_resistance_7 : decode cX8_resistance 7 = .ok (.aload_n 0, 1) := by decide +kernel
theorem dX8_resistance_8 : decode cX8_resistance 8 = .ok (.aload_n 0, 1) := by decide +kernel
theorem dX8_resistance_9 : decode cX8_resistance 9 = .ok (.iload_n 1, 1) := by decide +kernel
theorem dX8_resistance_10 : decode cX8_resistance 10 = .ok (.iconst 0, 1) := by decide +kernel
theorem dX8_resistance_11 : decode cX8_resistance 11 = .ok (.invokevirtual 43, 3) := by decide +kernel
theorem dX8_resistance_14 : decode cX8_resistance 14 = .ok (.iload_n 2, 1) := by decide +kernel
theorem dX8_resistance_15 : decode cX8_resistance 15 = .ok (.invokevirtual 69, 3) := by decide +kernel
theorem dX8_resistance_18 : decode cX8_resistance 18 = .ok (.i2l, 1) := by decide +kernel
theorem dX8_resistance_19 : decode cX8_resistance 19 = .ok (.lmul, 1) := by decide +kernel
theorem dX8_resistance_20 : decode cX8_resistance 20 = .ok (.ldc2_w 122, 3) := by decide +kernel
theorem dX8_resistance_23 : decode cX8_resistance 23 = .ok (.ldiv, 1) := by decide +kernel
theorem dX8_resistance_24 : decode cX8_resistance 24 = .ok (.lreturn, 1) := by decide +kernel
theorem dX8_heated_0 : decode cX8_heated 0 = .ok (.aload_n 0, 1) := by decide +kernel
theorem dX8_heated_1 : decode cX8_heated 1 = .ok (.iload_n 1, 1) := by decide +kernel
theorem dX8_heated_2 : decode cX8_heated 2 = .ok (.bipush 11, 2) := by decide +kernel
theorem dX8_heated_4 : decode cX8_heated 4 = .ok (.invokevirtual 43, 3) := by decide +kernel
theorem dX8_heated_7 : decode cX8_heated 7 = .ok (.iconst 1, 1) := by decide +kernel
theorem dX8_heated_8 : decode cX8_heated 8 = .ok (.if_icmp .ne 5, 3) := by decide +kernel
theorem dX8_heated_11 : decode cX8_heated 11 = .ok (.lconst 0, 1) := by decide +kernel
theorem dX8_heated_12 : decode cX8_heated 12 = .ok (.lreturn, 1) := by decide +kernel
theorem dX8_heated_13 : decode cX8_heated 13 = .ok (.iload_n 2, 1) := by decide +kernel
theorem dX8_heated_14 : decode cX8_heated 14 = .ok (.i2l, 1) := by decide +kernel
theorem dX8_heated_15 : decode cX8_heated 15 = .ok (.iload_n 2, 1) := by decide +kernel
theorem dX8_heated_16 : decode cX8_heated 16 = .ok (.i2l, 1) := by decide +kernel
theorem dX8_heated_17 : decode cX8_heated 17 = .ok (.lmul, 1) := by decide +kernel
theorem dX8_heated_18 : decode cX8_heated 18 = .ok (.aload_n 0, 1) := by decide +kernel
theorem dX8_heated_19 : decode cX8_heated 19 = .ok (.iload_n 1, 1) := by decide +kernel
theorem dX8_heated_20 : decode cX8_heated 20 = .ok (.aload_n 0, 1) := by decide +kernel
theorem dX8_heated_21 : decode cX8_heated 21 = .ok (.iload_n 1, 1) := by decide +kernel
theorem dX8_heated_22 : decode cX8_heated 22 = .ok (.iconst 4, 1) := by decide +kernel
theorem dX8_heated_23 : decode cX8_heated 23 = .ok (.invokevirtual 43, 3) := by decide +kernel
theorem dX8_heated_26 : decode cX8_heated 26 = .ok (.invokevirtual 142, 3) := by decide +kernel
theorem dX8_heated_29 : decode cX8_heated 29 = .ok (.lmul, 1) := by decide +kernel
theorem dX8_heated_30 : decode cX8_heated 30 = .ok (.ldc2_w 122, 3) := by decide +kernel
theorem dX8_heated_33 : decode cX8_heated 33 = .ok (.ldiv, 1) := by decide +kernel
theorem dX8_heated_34 : decode cX8_heated 34 = .ok (.aload_n 0, 1) := by decide +kernel
theorem dX8_heated_35 : decode cX8_heated 35 = .ok (.iload_n 1, 1) := by decide +kernel
theorem dX8_heated_36 : decode cX8_heated 36 = .ok (.bipush 9, 2) := by decide +kernel
theorem dX8_heated_38 : decode cX8_heated 38 = .ok (.invokevirtual 43, 3) := by decide +kernel
theorem dX8_heated_41 : decode cX8_heated 41 = .ok (.i2l, 1) := by decide +kernel
theorem dX8_heated_42 : decode cX8_heated 42 = .ok (.lmul, 1) := by decide +kernel
theorem dX8_heated_43 : decode cX8_heated 43 = .ok (.ldc2_w 122, 3) := by decide +kernel
theorem dX8_heated_46 : decode cX8_heated 46 = .ok (.ldiv, 1) := by decide +kernel
theorem dX8_heated_47 : decode cX8_heated 47 = .ok (.lstore_n 3, 1) := by decide +kernel
theorem dX8_heated_48 : decode cX8_heated 48 = .ok (.aload_n 0, 1) := by decide +kernel
theorem dX8_heated_49 : decode cX8_heated 49 = .ok (.iload_n 1, 1) := by decide +kernel
theorem dX8_heated_50 : decode cX8_heated 50 = .ok (.iconst 4, 1) := by decide +kernel
theorem dX8_heated_51 : decode cX8_heated 51 = .ok (.invokevirtual 43, 3) := by decide +kernel
theorem dX8_heated_54 : decode cX8_heated 54 = .ok (.i2l, 1) := by decide +kernel
theorem dX8_heated_55 : decode cX8_heated 55 = .ok (.lload_n 3, 1) := by decide +kernel
theorem dX8_heated_56 : decode cX8_heated 56 = .ok (.ladd, 1) := by decide +kernel
theorem dX8_heated_57 : decode cX8_heated 57 = .ok (.lstore 5, 2) := by decide +kernel
theorem dX8_heated_59 : decode cX8_heated 59 = .ok (.aload_n 0, 1) := by decide +kernel
theorem dX8_heated_60 : decode cX8_heated 60 = .ok (.aload_n 0, 1) := by decide +kernel
theorem dX8_heated_61 : decode cX8_heated 61 = .ok (.iload_n 1, 1) := by decide +kernel
theorem dX8_heated_62 : decode cX8_heated 62 = .ok (.iconst 0, 1) := by decide +kernel
theorem dX8_heated_63 : decode cX8_heated 63 = .ok (.invokevirtual 43, 3) := by decide +kernel
theorem dX8_heated_66 : decode cX8_heated 66 = .ok (.invokevirtual 62, 3) := by decide +kernel
theorem dX8_heated_69 : decode cX8_heated 69 = .ok (.istore 7, 2) := by decide +kernel
theorem dX8_heated_71 : decode cX8_heated 71 = .ok (.aload_n 0, 1) := by decide +kernel
theorem dX8_heated_72 : decode cX8_heated 72 = .ok (.iload_n 1, 1) := by decide +kernel
theorem dX8_heated_73 : decode cX8_heated 73 = .ok (.lload 5, 2) := by decide +kernel
theorem dX8_heated_75 : decode cX8_heated 75 = .ok (.iload 7, 2) := by decide +kernel
theorem dX8_heated_77 : decode cX8_heated 77 = .ok (.i2l, 1) := by decide +kernel
theorem dX8_heated_78 : decode cX8_heated 78 = .ok (.lcmp, 1) := by decide +kernel
theorem dX8_heated_79 : decode cX8_heated 79 = .ok (.ifCond .le 8, 3) := by decide +kernel
theorem dX8_heated_82 : decode cX8_heated 82 = .ok (.iload 7, 2) := by decide +kernel
theorem dX8_heated_84 : decode cX8_heated 84 = .ok (.goto 6, 3) := by decide +kernel
theorem dX8_heated_87 : decode cX8_heated 87 = .ok (.lload 5, 2) := by decide +kernel
theorem dX8_heated_89 : decode cX8_heated 89 = .ok (.l2i, 1) := by decide +kernel
theorem dX8_heated_90 : decode cX8_heated 90 = .ok (.invokevirtual 142, 3) := by decide +kernel
theorem dX8_heated_93 : decode cX8_heated 93 = .ok (.lreturn, 1) := by decide +kernel
theorem dX8_loop_0 : decode cX8_loop 0 = .ok (.aload_n 0, 1) := by decide +kernel
theorem dX8_loop_1 : decode cX8_loop 1 = .ok (.iload_n 1, 1) := by decide +kernel
theorem dX8_loop_2 : decode cX8_loop 2 = .ok (.iload_n 2, 1) := by decide +kernel
theorem dX8_loop_3 : decode cX8_loop 3 = .ok (.invokevirtual 146, 3) := by decide +kernel
theorem dX8_loop_6 : decode cX8_loop 6 = .ok (.aload_n 0, 1) := by decide +kernel
theorem dX8_loop_7 : decode cX8_loop 7 = .ok (.iload_n 1, 1) := by decide +kernel
theorem dX8_loop_8 : decode cX8_loop 8 = .ok (.iconst 1, 1) := by decide +kernel
theorem dX8_loop_9 : decode cX8_loop 9 = .ok (.invokevirtual 43, 3) := by decide +kernel
theorem dX8_loop_12 : decode cX8_loop 12 = .ok (.iconst 4, 1) := by decide +kernel
theorem dX8_loop_13 : decode cX8_loop 13 = .ok (.if_icmp .ne 7, 3) := by decide +kernel
theorem dX8_loop_16 : decode cX8_loop 16 = .ok (.iconst 0, 1) := by decide +kernel
theorem dX8_loop_17 : decode cX8_loop 17 = .ok (.goto 17, 3) := by decide +kernel
theorem dX8_loop_20 : decode cX8_loop 20 = .ok (.aload_n 0, 1) := by decide +kernel
theorem dX8_loop_21 : decode cX8_loop 21 = .ok (.iload_n 1, 1) := by decide +kernel
theorem dX8_loop_22 : decode cX8_loop 22 = .ok (.iconst 5, 1) := by decide +kernel
theorem dX8_loop_23 : decode cX8_loop 23 = .ok (.invokevirtual 43, 3) := by decide +kernel
theorem dX8_loop_26 : decode cX8_loop 26 = .ok (.aload_n 0, 1) := by decide +kernel
theorem dX8_loop_27 : decode cX8_loop 27 = .ok (.iload_n 1, 1) := by decide +kernel
theorem dX8_loop_28 : decode cX8_loop 28 = .ok (.bipush 6, 2) := by decide +kernel
theorem dX8_loop_30 : decode cX8_loop 30 = .ok (.invokevirtual 43, 3) := by decide +kernel
theorem dX8_loop_33 : decode cX8_loop 33 = .ok (.iadd, 1) := by decide +kernel
theorem dX8_loop_34 : decode cX8_loop 34 = .ok (.i2l, 1) := by decide +kernel
theorem dX8_loop_35 : decode cX8_loop 35 = .ok (.ladd, 1) := by decide +kernel
theorem dX8_loop_36 : decode cX8_loop 36 = .ok (.lreturn, 1) := by decide +kernel
theorem dX8_countsOf_0 : decode cX8_countsOf 0 = .ok (.iload 4, 2) := by decide +kernel
theorem dX8_countsOf_2 : decode cX8_countsOf 2 = .ok (.iconst 2, 1) := by decide +kernel
theorem dX8_countsOf_3 : decode cX8_countsOf 3 = .ok (.if_icmp .ne 25, 3) := by decide +kernel
theorem dX8_countsOf_6 : decode cX8_countsOf 6 = .ok (.aload_n 0, 1) := by decide +kernel
theorem dX8_countsOf_7 : decode cX8_countsOf 7 = .ok (.iload_n 1, 1) := by decide +kernel
theorem dX8_countsOf_8 : decode cX8_countsOf 8 = .ok (.iload_n 2, 1) := by decide +kernel
theorem dX8_countsOf_9 : decode cX8_countsOf 9 = .ok (.iload_n 3, 1) := by decide +kernel
theorem dX8_countsOf_10 : decode cX8_countsOf 10 = .ok (.iconst 0, 1) := by decide +kernel
theorem dX8_countsOf_11 : decode cX8_countsOf 11 = .ok (.invokevirtual 149, 3) := by decide +kernel
theorem dX8_countsOf_14 : decode cX8_countsOf 14 = .ok (.aload_n 0, 1) := by decide +kernel
theorem dX8_countsOf_15 : decode cX8_countsOf 15 = .ok (.iload_n 1, 1) := by decide +kernel
theorem dX8_countsOf_16 : decode cX8_countsOf 16 = .ok (.iload_n 2, 1) := by decide +kernel
theorem dX8_countsOf_17 : decode cX8_countsOf 17 = .ok (.iload_n 3, 1) := by decide +kernel
theorem dX8_countsOf_18 : decode cX8_countsOf 18 = .ok (.iconst 1, 1) := by decide +kernel
theorem dX8_countsOf_19 : decode cX8_countsOf 19 = .ok (.invokevirtual 149, 3) := by decide +kernel
theorem dX8_countsOf_22 : decode cX8_countsOf 22 = .ok (.lsub, 1) := by decide +kernel
theorem dX8_countsOf_23 : decode cX8_countsOf 23 = .ok (.ldc2_w 153, 3) := by decide +kernel
theorem dX8_countsOf_26 : decode cX8_countsOf 26 = .ok (.ldiv, 1) := by decide +kernel
theorem dX8_countsOf_27 : decode cX8_countsOf 27 = .ok (.lreturn, 1) := by decide +kernel
theorem dX8_countsOf_28 : decode cX8_countsOf 28 = .ok (.aload_n 0, 1) := by decide +kernel
theorem dX8_countsOf_29 : decode cX8_countsOf 29 = .ok (.iload_n 1, 1) := by decide +kernel
theorem dX8_countsOf_30 : decode cX8_countsOf 30 = .ok (.iload_n 2, 1) := by decide +kernel
theorem dX8_countsOf_31 : decode cX8_countsOf 31 = .ok (.iload_n 3, 1) := by decide +kernel
theorem dX8_countsOf_32 : decode cX8_countsOf 32 = .ok (.iload 4, 2) := by decide +kernel
theorem dX8_countsOf_34 : decode cX8_countsOf 34 = .ok (.invokevirtual 149, 3) := by decide +kernel
theorem dX8_countsOf_37 : decode cX8_countsOf 37 = .ok (.lreturn, 1) := by decide +kernel
theorem dX8_countsOneWay_0 : decode cX8_countsOneWay 0 = .ok (.iload_n 3, 1) := by decide +kernel
theorem dX8_countsOneWay_1 : decode cX8_countsOneWay 1 = .ok (.ifCond .ne 12, 3) := by decide +kernel
theorem dX8_countsOneWay_4 : decode cX8_countsOneWay 4 = .ok (.aload_n 0, 1) := by decide +kernel
theorem dX8_countsOneWay_5 : decode cX8_countsOneWay 5 = .ok (.iload_n 1, 1) := by decide +kernel
theorem dX8_countsOneWay_6 : decode cX8_countsOneWay 6 = .ok (.iload_n 2, 1) := by decide +kernel
theorem dX8_countsOneWay_7 : decode cX8_countsOneWay 7 = .ok (.invokevirtual 155, 3) := by decide +kernel
theorem dX8_countsOneWay_10 : decode cX8_countsOneWay 10 = .ok (.goto 19, 3) := by decide +kernel
theorem dX8_countsOneWay_13 : decode cX8_countsOneWay 13 = .ok (.aload_n 0, 1) := by decide +kernel
theorem dX8_countsOneWay_14 : decode cX8_countsOneWay 14 = .ok (.iload_n 1, 1) := by decide +kernel
theorem dX8_countsOneWay_15 : decode cX8_countsOneWay 15 = .ok (.bipush 6, 2) := by decide +kernel
theorem dX8_countsOneWay_17 : decode cX8_countsOneWay 17 = .ok (.invokevirtual 43, 3) := by decide +kernel
theorem dX8_countsOneWay_20 : decode cX8_countsOneWay 20 = .ok (.aload_n 0, 1) := by decide +kernel
theorem dX8_countsOneWay_21 : decode cX8_countsOneWay 21 = .ok (.iload_n 1, 1) := by decide +kernel
theorem dX8_countsOneWay_22 : decode cX8_countsOneWay 22 = .ok (.bipush 7, 2) := by decide +kernel
theorem dX8_countsOneWay_24 : decode cX8_countsOneWay 24 = .ok (.invokevirtual 43, 3) := by decide +kernel
theorem dX8_countsOneWay_27 : decode cX8_countsOneWay 27 = .ok (.iadd, 1) := by decide +kernel
theorem dX8_countsOneWay_28 : decode cX8_countsOneWay 28 = .ok (.i2l, 1) := by decide +kernel
theorem dX8_countsOneWay_29 : decode cX8_countsOneWay 29 = .ok (.lstore 5, 2) := by decide +kernel
theorem dX8_countsOneWay_31 : decode cX8_countsOneWay 31 = .ok (.iload 4, 2) := by decide +kernel
theorem dX8_countsOneWay_33 : decode cX8_countsOneWay 33 = .ok (.ifCond .ne 11, 3) := by decide +kernel
theorem dX8_countsOneWay_36 : decode cX8_countsOneWay 36 = .ok (.iload_n 2, 1) := by decide +kernel
theorem dX8_countsOneWay_37 : decode cX8_countsOneWay 37 = .ok (.i2l, 1) := by decide +kernel
theorem dX8_countsOneWay_38 : decode cX8_countsOneWay 38 = .ok (.lload 5, 2) := by decide +kernel
theorem dX8_countsOneWay_40 : decode cX8_countsOneWay 40 = .ok (.lmul, 1) := by decide +kernel
theorem dX8_countsOneWay_41 : decode cX8_countsOneWay 41 = .ok (.goto 9, 3) := by decide +kernel
theorem dX8_countsOneWay_44 : decode cX8_countsOneWay 44 = .ok (.iload_n 2, 1) := by decide +kernel
theorem dX8_countsOneWay_45 : decode cX8_countsOneWay 45 = .ok (.i2l, 1) := by decide +kernel
theorem dX8_countsOneWay_46 : decode cX8_countsOneWay 46 = .ok (.lload 5, 2) := by decide +kernel
theorem dX8_countsOneWay_48 : decode cX8_countsOneWay 48 = .ok (.lmul, 1) := by decide +kernel
theorem dX8_countsOneWay_49 : decode cX8_countsOneWay 49 = .ok (.lneg, 1) := by decide +kernel
theorem dX8_countsOneWay_50 : decode cX8_countsOneWay 50 = .ok (.aload_n 0, 1) := by decide +kernel
theorem dX8_countsOneWay_51 : decode cX8_countsOneWay 51 = .ok (.iload_n 1, 1) := by decide +kernel
theorem dX8_countsOneWay_52 : decode cX8_countsOneWay 52 = .ok (.bipush 10, 2) := by decide +kernel
theorem dX8_countsOneWay_54 : decode cX8_countsOneWay 54 = .ok (.invokevirtual 43, 3) := by decide +kernel
theorem dX8_countsOneWay_57 : decode cX8_countsOneWay 57 = .ok (.i2l, 1) := by decide +kernel
theorem dX8_countsOneWay_58 : decode cX8_countsOneWay 58 = .ok (.ladd, 1) := by decide +kernel
theorem dX8_countsOneWay_59 : decode cX8_countsOneWay 59 = .ok (.lstore 7, 2) := by decide +kernel
theorem dX8_countsOneWay_61 : decode cX8_countsOneWay 61 = .ok (.lconst 1, 1) := by decide +kernel
theorem dX8_countsOneWay_62 : decode cX8_countsOneWay 62 = .ok (.aload_n 0, 1) := by decide +kernel
theorem dX8_countsOneWay_63 : decode cX8_countsOneWay 63 = .ok (.getfield 7, 3) := by decide +kernel
theorem dX8_countsOneWay_66 : decode cX8_countsOneWay 66 = .ok (.iconst 5, 1) := by decide +kernel
theorem dX8_countsOneWay_67 : decode cX8_countsOneWay 67 = .ok (.iaload, 1) := by decide +kernel
theorem dX8_countsOneWay_68 : decode cX8_countsOneWay 68 = .ok (.lshl, 1) := by decide +kernel
theorem dX8_countsOneWay_69 : decode cX8_countsOneWay 69 = .ok (.lstore 9, 2) := by decide +kernel
theorem dX8_countsOneWay_71 : decode cX8_countsOneWay 71 = .ok (.lload 7, 2) := by decide +kernel
theorem dX8_countsOneWay_73 : decode cX8_countsOneWay 73 = .ok (.lload 9, 2) := by decide +kernel
theorem dX8_countsOneWay_75 : decode cX8_countsOneWay 75 = .ok (.lmul, 1) := by decide +kernel
theorem dX8_countsOneWay_76 : decode cX8_countsOneWay 76 = .ok (.iload_n 2, 1) := by decide +kernel
theorem dX8_countsOneWay_77 : decode cX8_countsOneWay 77 = .ok (.i2l, 1) := by decide +kernel
theorem dX8_countsOneWay_78 : decode cX8_countsOneWay 78 = .ok (.aload_n 0, 1) := by decide +kernel
theorem dX8_countsOneWay_79 : decode cX8_countsOneWay 79 = .ok (.getfield 7, 3) := by decide +kernel
theorem dX8_countsOneWay_82 : decode cX8_countsOneWay 82 = .ok (.iconst 2, 1) := by decide +kernel
theorem dX8_countsOneWay_83 : decode cX8_countsOneWay 83 = .ok (.iaload, 1) := by decide +kernel
theorem dX8_countsOneWay_84 : decode cX8_countsOneWay 84 = .ok (.i2l, 1) := by decide +kernel
theorem dX8_countsOneWay_85 : decode cX8_countsOneWay 85 = .ok (.lmul, 1) := by decide +kernel
theorem dX8_countsOneWay_86 : decode cX8_countsOneWay 86 = .ok (.ldiv, 1) := by decide +kernel
theorem dX8_countsOneWay_87 : decode cX8_countsOneWay 87 = .ok (.lstore 11, 2) := by decide +kernel
theorem dX8_countsOneWay_89 : decode cX8_countsOneWay 89 = .ok (.lload 11, 2) := by decide +kernel
theorem dX8_countsOneWay_91 : decode cX8_countsOneWay 91 = .ok (.ldc2_w 158, 3) := by decide +kernel
theorem dX8_countsOneWay_94 : decode cX8_countsOneWay 94 = .ok (.lload 9, 2) := by decide +kernel
theorem dX8_countsOneWay_96 : decode cX8_countsOneWay 96 = .ok (.lmul, 1) := by decide +kernel
theorem dX8_countsOneWay_97 : decode cX8_countsOneWay 97 = .ok (.lcmp, 1) := by decide +kernel
theorem dX8_countsOneWay_98 : decode cX8_countsOneWay 98 = .ok (.ifCond .le 12, 3) := by decide +kernel
theorem dX8_countsOneWay_101 : decode cX8_countsOneWay 101 = .ok (.ldc2_w 158, 3) := by decide +kernel
theorem dX8_countsOneWay_104 : decode cX8_countsOneWay 104 = .ok (.lload 9, 2) := by decide +kernel
theorem dX8_countsOneWay_106 : decode cX8_countsOneWay 106 = .ok (.lmul, 1) := by decide +kernel
theorem dX8_countsOneWay_107 : decode cX8_countsOneWay 107 = .ok (.goto 26, 3) := by decide +kernel
theorem dX8_countsOneWay_110 : decode cX8_countsOneWay 110 = .ok (.lload 11, 2) := by decide +kernel
theorem dX8_countsOneWay_112 : decode cX8_countsOneWay 112 = .ok (.ldc2_w 160, 3) := by decide +kernel
theorem dX8_countsOneWay_115 : decode cX8_countsOneWay 115 = .ok (.lload 9, 2) := by decide +kernel
theorem dX8_countsOneWay_117 : decode cX8_countsOneWay 117 = .ok (.lmul, 1) := by decide +kernel
theorem dX8_countsOneWay_118 : decode cX8_countsOneWay 118 = .ok (.lcmp, 1) := by decide +kernel
theorem dX8_countsOneWay_119 : decode cX8_countsOneWay 119 = .ok (.ifCond .ge 12, 3) := by decide +kernel
theorem dX8_countsOneWay_122 : decode cX8_countsOneWay 122 = .ok (.ldc2_w 160, 3) := by decide +kernel
theorem dX8_countsOneWay_125 : decode cX8_countsOneWay 125 = .ok (.lload 9, 2) := by decide +kernel
theorem dX8_countsOneWay_127 : decode cX8_countsOneWay 127 = .ok (.lmul, 1) := by decide +kernel
theorem dX8_countsOneWay_128 : decode cX8_countsOneWay 128 = .ok (.goto 5, 3) := by decide +kernel
theorem dX8_countsOneWay_131 : decode cX8_countsOneWay 131 = .ok (.lload 11, 2) := by decide +kernel
theorem dX8_countsOneWay_133 : decode cX8_countsOneWay 133 = .ok (.lreturn, 1) := by decide +kernel
theorem dX8_byCounts_0 : decode cX8_byCounts 0 = .ok (.lload_n 1, 1) := by decide +kernel
theorem dX8_byCounts_1 : decode cX8_byCounts 1 = .ok (.aload_n 0, 1) := by decide +kernel
theorem dX8_byCounts_2 : decode cX8_byCounts 2 = .ok (.getfield 7, 3) := by decide +kernel
theorem dX8_byCounts_5 : decode cX8_byCounts 5 = .ok (.iconst 2, 1) := by decide +kernel
theorem dX8_byCounts_6 : decode cX8_byCounts 6 = .ok (.iaload, 1) := by decide +kernel
theorem dX8_byCounts_7 : decode cX8_byCounts 7 = .ok (.i2l, 1) := by decide +kernel
theorem dX8_byCounts_8 : decode cX8_byCounts 8 = .ok (.lmul, 1) := by decide +kernel
theorem dX8_byCounts_9 : decode cX8_byCounts 9 = .ok (.lconst 1, 1) := by decide +kernel
theorem dX8_byCounts_10 : decode cX8_byCounts 10 = .ok (.aload_n 0, 1) := by decide +kernel
theorem dX8_byCounts_11 : decode cX8_byCounts 11 = .ok (.getfield 7, 3) := by decide +kernel
theorem dX8_byCounts_14 : decode cX8_byCounts 14 = .ok (.iconst 5, 1) := by decide +kernel
theorem dX8_byCounts_15 : decode cX8_byCounts 15 = .ok (.iaload, 1) := by decide +kernel
theorem dX8_byCounts_16 : decode cX8_byCounts 16 = .ok (.lshl, 1) := by decide +kernel
theorem dX8_byCounts_17 : decode cX8_byCounts 17 = .ok (.ldiv, 1) := by decide +kernel
theorem dX8_byCounts_18 : decode cX8_byCounts 18 = .ok (.lreturn, 1) := by decide +kernel
theorem dX8_compensated_0 : decode cX8_compensated 0 = .ok (.aload_n 0, 1) := by decide +kernel
theorem dX8_compensated_1 : decode cX8_compensated 1 = .ok (.aload_n 0, 1) := by decide +kernel
theorem dX8_compensated_2 : decode cX8_compensated 2 = .ok (.iload_n 1, 1) := by decide +kernel
theorem dX8_compensated_3 : decode cX8_compensated 3 = .ok (.iload_n 2, 1) := by decide +kernel
theorem dX8_compensated_4 : decode cX8_compensated 4 = .ok (.iconst 0, 1) := by decide +kernel
theorem dX8_compensated_5 : decode cX8_compensated 5 = .ok (.iconst 2, 1) := by decide +kernel
theorem dX8_compensated_6 : decode cX8_compensated 6 = .ok (.invokevirtual 162, 3) := by decide +kernel
theorem dX8_compensated_9 : decode cX8_compensated 9 = .ok (.invokevirtual 165, 3) := by decide +kernel
theorem dX8_compensated_12 : decode cX8_compensated 12 = .ok (.lstore_n 3, 1) := by decide +kernel
theorem dX8_compensated_13 : decode cX8_compensated 13 = .ok (.aload_n 0, 1) := by decide +kernel
theorem dX8_compensated_14 : decode cX8_compensated 14 = .ok (.iload_n 1, 1) := by decide +kernel
theorem dX8_compensated_15 : decode cX8_compensated 15 = .ok (.iconst 1, 1) := by decide +kernel
theorem dX8_compensated_16 : decode cX8_compensated 16 = .ok (.invokevirtual 43, 3) := by decide +kernel
theorem dX8_compensated_19 : decode cX8_compensated 19 = .ok (.iconst 3, 1) := by decide +kernel
theorem dX8_compensated_20 : decode cX8_compensated 20 = .ok (.if_icmp .ne 20, 3) := by decide +kernel
theorem dX8_compensated_23 : decode cX8_compensated 23 = .ok (.lload_n 3, 1) := by decide +kernel
theorem dX8_compensated_24 : decode cX8_compensated 24 = .ok (.aload_n 0, 1) := by decide +kernel
theorem dX8_compensated_25 : decode cX8_compensated 25 = .ok (.aload_n 0, 1) := by decide +kernel
theorem dX8_compensated_26 : decode cX8_compensated 26 = .ok (.iload_n 1, 1) := by decide +kernel
theorem dX8_compensated_27 : decode cX8_compensated 27 = .ok (.iload_n 2, 1) := by decide +kernel
theorem dX8_compensated_28 : decode cX8_compensated 28 = .ok (.iconst 1, 1) := by decide +kernel
theorem dX8_compensated_29 : decode cX8_compensated 29 = .ok (.iconst 2, 1) := by decide +kernel
theorem dX8_compensated_30 : decode cX8_compensated 30 = .ok (.invokevirtual 162, 3) := by decide +kernel
theorem dX8_compensated_33 : decode cX8_compensated 33 = .ok (.invokevirtual 165, 3) := by decide +kernel
theorem dX8_compensated_36 : decode cX8_compensated 36 = .ok (.lsub, 1) := by decide +kernel
theorem dX8_compensated_37 : decode cX8_compensated 37 = .ok (.goto 4, 3) := by decide +kernel
theorem dX8_compensated_40 : decode cX8_compensated 40 = .ok (.lload_n 3, 1) := by decide +kernel
theorem dX8_compensated_41 : decode cX8_compensated 41 = .ok (.lreturn, 1) := by decide +kernel
theorem dX8_without_0 : decode cX8_without 0 = .ok (.aload_n 0, 1) := by decide +kernel
theorem dX8_without_1 : decode cX8_without 1 = .ok (.getfield 7, 3) := by decide +kernel
theorem dX8_without_4 : decode cX8_without 4 = .ok (.iconst 3, 1) := by decide +kernel
theorem dX8_without_5 : decode cX8_without 5 = .ok (.iaload, 1) := by decide +kernel
theorem dX8_without_6 : decode cX8_without 6 = .ok (.i2l, 1) := by decide +kernel
theorem dX8_without_7 : decode cX8_without 7 = .ok (.lstore_n 2, 1) := by decide +kernel
theorem dX8_without_8 : decode cX8_without 8 = .ok (.aload_n 0, 1) := by decide +kernel
theorem dX8_without_9 : decode cX8_without 9 = .ok (.getfield 7, 3) := by decide +kernel
theorem dX8_without_12 : decode cX8_without 12 = .ok (.iconst 4, 1) := by decide +kernel
theorem dX8_without_13 : decode cX8_without 13 = .ok (.iaload, 1) := by decide +kernel
theorem dX8_without_14 : decode cX8_without 14 = .ok (.i2l, 1) := by decide +kernel
theorem dX8_without_15 : decode cX8_without 15 = .ok (.lstore 4, 2) := by decide +kernel
theorem dX8_without_17 : decode cX8_without 17 = .ok (.aload_n 0, 1) := by decide +kernel
theorem dX8_without_18 : decode cX8_without 18 = .ok (.iload_n 1, 1) := by decide +kernel
theorem dX8_without_19 : decode cX8_without 19 = .ok (.aload_n 0, 1) := by decide +kernel
theorem dX8_without_20 : decode cX8_without 20 = .ok (.getfield 7, 3) := by decide +kernel
theorem dX8_without_23 : decode cX8_without 23 = .ok (.iconst 3, 1) := by decide +kernel
theorem dX8_without_24 : decode cX8_without 24 = .ok (.iaload, 1) := by decide +kernel
theorem dX8_without_25 : decode cX8_without 25 = .ok (.invokevirtual 169, 3) := by decide +kernel
theorem dX8_without_28 : decode cX8_without 28 = .ok (.lstore 6, 2) := by decide +kernel
theorem dX8_without_30 : decode cX8_without 30 = .ok (.aload_n 0, 1) := by decide +kernel
theorem dX8_without_31 : decode cX8_without 31 = .ok (.iload_n 1, 1) := by decide +kernel
theorem dX8_without_32 : decode cX8_without 32 = .ok (.aload_n 0, 1) := by decide +kernel
theorem dX8_without_33 : decode cX8_without 33 = .ok (.getfield 7, 3) := by decide +kernel
theorem dX8_without_36 : decode cX8_without 36 = .ok (.iconst 4, 1) := by decide +kernel
theorem dX8_without_37 : decode cX8_without 37 = .ok (.iaload, 1) := by decide +kernel
theorem dX8_without_38 : decode cX8_without 38 = .ok (.invokevirtual 169, 3) := by decide +kernel
theorem dX8_without_41 : decode cX8_without 41 = .ok (.lstore 8, 2) := by decide +kernel
theorem dX8_without_43 : decode cX8_without 43 = .ok (.lload_n 2, 1) := by decide +kernel
theorem dX8_without_44 : decode cX8_without 44 = .ok (.lload 4, 2) := by decide +kernel
theorem dX8_without_46 : decode cX8_without 46 = .ok (.lcmp, 1) := by decide +kernel
theorem dX8_without_47 : decode cX8_without 47 = .ok (.ifCond .ne 8, 3) := by decide +kernel
theorem dX8_without_50 : decode cX8_without 50 = .ok (.lload 6, 2) := by decide +kernel
theorem dX8_without_52 : decode cX8_without 52 = .ok (.goto 25, 3) := by decide +kernel
theorem dX8_without_55 : decode cX8_without 55 = .ok (.lload 6, 2) := by decide +kernel
theorem dX8_without_57 : decode cX8_without 57 = .ok (.lload 8, 2) := by decide +kernel
theorem dX8_without_59 : decode cX8_without 59 = .ok (.lload 6, 2) := by decide +kernel
theorem dX8_without_61 : decode cX8_without 61 = .ok (.lsub, 1) := by decide +kernel
theorem dX8_without_62 : decode cX8_without 62 = .ok (.lload_n 2, 1) := by decide +kernel
theorem dX8_without_63 : decode cX8_without 63 = .ok (.lmul, 1) := by decide +kernel
theorem dX8_without_64 : decode cX8_without 64 = .ok (.lload_n 2, 1) := by decide +kernel
theorem dX8_without_65 : decode cX8_without 65 = .ok (.lmul, 1) := by decide +kernel
theorem dX8_without_66 : decode cX8_without 66 = .ok (.lload 4, 2) := by decide +kernel
theorem dX8_without_68 : decode cX8_without 68 = .ok (.lload 4, 2) := by decide +kernel
theorem dX8_without_70 : decode cX8_without 70 = .ok (.lmul, 1) := by decide +kernel
theorem dX8_without_71 : decode cX8_without 71 = .ok (.lload_n 2, 1) := by decide +kernel
theorem dX8_without_72 : decode cX8_without 72 = .ok (.lload_n 2, 1) := by decide +kernel
theorem dX8_without_73 : decode cX8_without 73 = .ok (.lmul, 1) := by decide +kernel
theorem dX8_without_74 : decode cX8_without 74 = .ok (.lsub, 1) := by decide +kernel
theorem dX8_without_75 : decode cX8_without 75 = .ok (.ldiv, 1) := by decide +kernel
theorem dX8_without_76 : decode cX8_without 76 = .ok (.lsub, 1) := by decide +kernel
theorem dX8_without_77 : decode cX8_without 77 = .ok (.lstore 10, 2) := by decide +kernel
theorem dX8_without_79 : decode cX8_without 79 = .ok (.lload 10, 2) := by decide +kernel
theorem dX8_without_81 : decode cX8_without 81 = .ok (.ldc2_w 172, 3) := by decide +kernel
theorem dX8_without_84 : decode cX8_without 84 = .ok (.lcmp, 1) := by decide +kernel
theorem dX8_without_85 : decode cX8_without 85 = .ok (.ifCond .ge 9, 3) := by decide +kernel
theorem dX8_without_88 : decode cX8_without 88 = .ok (.ldc2_w 172, 3) := by decide +kernel
theorem dX8_without_91 : decode cX8_without 91 = .ok (.goto 20, 3) := by decide +kernel
theorem dX8_without_94 : decode cX8_without 94 = .ok (.lload 10, 2) := by decide +kernel
theorem dX8_without_96 : decode cX8_without 96 = .ok (.ldc2_w 174, 3) := by decide +kernel
theorem dX8_without_99 : decode cX8_without 99 = .ok (.lcmp, 1) := by decide +kernel
theorem dX8_without_100 : decode cX8_without 100 = .ok (.ifCond .le 9, 3) := by decide +kernel
theorem dX8_without_103 : decode cX8_without 103 = .ok (.ldc2_w 174, 3) := by decide +kernel
theorem dX8_without_106 : decode cX8_without 106 = .ok (.goto 5, 3) := by decide +kernel
theorem dX8_without_109 : decode cX8_without 109 = .ok (.lload 10, 2) := by decide +kernel
theorem dX8_without_111 : decode cX8_without 111 = .ok (.lreturn, 1) := by decide +kernel
theorem dX8_isBound_0 : decode cX8_isBound 0 = .ok (.ldc2_w 158, 3) := by decide +kernel
theorem dX8_isBound_3 : decode cX8_isBound 3 = .ok (.aload_n 0, 1) := by decide +kernel
theorem dX8_isBound_4 : decode cX8_isBound 4 = .ok (.getfield 7, 3) := by decide +kernel
theorem dX8_isBound_7 : decode cX8_isBound 7 = .ok (.iconst 5, 1) := by decide +kernel
theorem dX8_isBound_8 : decode cX8_isBound 8 = .ok (.iaload, 1) := by decide +kernel
theorem dX8_isBound_9 : decode cX8_isBound 9 = .ok (.lshl, 1) := by decide +kernel
theorem dX8_isBound_10 : decode cX8_isBound 10 = .ok (.lstore_n 3, 1) := by decide +kernel
theorem dX8_isBound_11 : decode cX8_isBound 11 = .ok (.aload_n 0, 1) := by decide +kernel
theorem dX8_isBound_12 : decode cX8_isBound 12 = .ok (.iload_n 1, 1) := by decide +kernel
theorem dX8_isBound_13 : decode cX8_isBound 13 = .ok (.iload_n 2, 1) := by decide +kernel
theorem dX8_isBound_14 : decode cX8_isBound 14 = .ok (.iconst 0, 1) := by decide +kernel
theorem dX8_isBound_15 : decode cX8_isBound 15 = .ok (.iconst 0, 1) := by decide +kernel
theorem dX8_isBound_16 : decode cX8_isBound 16 = .ok (.invokevirtual 162, 3) := by decide +kernel
theorem dX8_isBound_19 : decode cX8_isBound 19 = .ok (.lstore 5, 2) := by decide +kernel
theorem dX8_isBound_21 : decode cX8_isBound 21 = .ok (.aload_n 0, 1) := by decide +kernel
theorem dX8_isBound_22 : decode cX8_isBound 22 = .ok (.iload_n 1, 1) := by decide +kernel
theorem dX8_isBound_23 : decode cX8_isBound 23 = .ok (.iload_n 2, 1) := by decide +kernel
theorem dX8_isBound_24 : decode cX8_isBound 24 = .ok (.iconst 0, 1) := by decide +kernel
theorem dX8_isBound_25 : decode cX8_isBound 25 = .ok (.iconst 1, 1) := by decide +kernel
theorem dX8_isBound_26 : decode cX8_isBound 26 = .ok (.invokevirtual 162, 3) := by decide +kernel
theorem dX8_isBound_29 : decode cX8_isBound 29 = .ok (.lstore 7, 2) := by decide +kernel
theorem dX8_isBound_31 : decode cX8_isBound 31 = .ok (.lload 5, 2) := by decide +kernel
theorem dX8_isBound_33 : decode cX8_isBound 33 = .ok (.lload_n 3, 1) := by decide +kernel
theorem dX8_isBound_34 : decode cX8_isBound 34 = .ok (.lcmp, 1) := by decide +kernel
theorem dX8_isBound_35 : decode cX8_isBound 35 = .ok (.ifCond .eq 26, 3) := by decide +kernel
theorem dX8_isBound_38 : decode cX8_isBound 38 = .ok (.lload 5, 2) := by decide +kernel
theorem dX8_isBound_40 : decode cX8_isBound 40 = .ok (.lload_n 3, 1) := by decide +kernel
theorem dX8_isBound_41 : decode cX8_isBound 41 = .ok (.lneg, 1) := by decide +kernel
theorem dX8_isBound_42 : decode cX8_isBound 42 = .ok (.lcmp, 1) := by decide +kernel
theorem dX8_isBound_43 : decode cX8_isBound 43 = .ok (.ifCond .eq 18, 3) := by decide +kernel
theorem dX8_isBound_46 : decode cX8_isBound 46 = .ok (.lload 7, 2) := by decide +kernel
theorem dX8_isBound_48 : decode cX8_isBound 48 = .ok (.lload_n 3, 1) := by decide +kernel
theorem dX8_isBound_49 : decode cX8_isBound 49 = .ok (.lcmp, 1) := by decide +kernel
theorem dX8_isBound_50 : decode cX8_isBound 50 = .ok (.ifCond .eq 11, 3) := by decide +kernel
theorem dX8_isBound_53 : decode cX8_isBound 53 = .ok (.lload 7, 2) := by decide +kernel
theorem dX8_isBound_55 : decode cX8_isBound 55 = .ok (.lload_n 3, 1) := by decide +kernel
theorem dX8_isBound_56 : decode cX8_isBound 56 = .ok (.lneg, 1) := by decide +kernel
theorem dX8_isBound_57 : decode cX8_isBound 57 = .ok (.lcmp, 1) := by decide +kernel
theorem dX8_isBound_58 : decode cX8_isBound 58 = .ok (.ifCond .ne 7, 3) := by decide +kernel
theorem dX8_isBound_61 : decode cX8_isBound 61 = .ok (.iconst 1, 1) := by decide +kernel
theorem dX8_isBound_62 : decode cX8_isBound 62 = .ok (.goto 4, 3) := by decide +kernel
theorem dX8_isBound_65 : decode cX8_isBound 65 = .ok (.iconst 0, 1) := by decide +kernel
theorem dX8_isBound_66 : decode cX8_isBound 66 = .ok (.ireturn, 1) := by decide +kernel
theorem dX8_degrees_0 : decode cX8_degrees 0 = .ok (.aload_n 0, 1) := by decide +kernel
theorem dX8_degrees_1 : decode cX8_degrees 1 = .ok (.aload_n 0, 1) := by decide +kernel
theorem dX8_degrees_2 : decode cX8_degrees 2 = .ok (.iload_n 1, 1) := by decide +kernel
theorem dX8_degrees_3 : decode cX8_degrees 3 = .ok (.iconst 0, 1) := by decide +kernel
theorem dX8_degrees_4 : decode cX8_degrees 4 = .ok (.invokevirtual 43, 3) := by decide +kernel
theorem dX8_degrees_7 : decode cX8_degrees 7 = .ok (.aload_n 0, 1) := by decide +kernel
theorem dX8_degrees_8 : decode cX8_degrees 8 = .ok (.iload_n 1, 1) := by decide +kernel
theorem dX8_degrees_9 : decode cX8_degrees 9 = .ok (.invokevirtual 131, 3) := by decide +kernel
theorem dX8_degrees_12 : decode cX8_degrees 12 = .ok (.ldc2_w 122, 3) := by decide +kernel
theorem dX8_degrees_15 : decode cX8_degrees 15 = .ok (.lmul, 1) := by decide +kernel
theorem dX8_degrees_16 : decode cX8_degrees 16 = .ok (.aload_n 0, 1) := by decide +kernel
theorem dX8_degrees_17 : decode cX8_degrees 17 = .ok (.iload_n 1, 1) := by decide +kernel
theorem dX8_degrees_18 : decode cX8_degrees 18 = .ok (.iconst 3, 1) := by decide +kernel
theorem dX8_degrees_19 : decode cX8_degrees 19 = .ok (.invokevirtual 43, 3) := by decide +kernel
theorem dX8_degrees_22 : decode cX8_degrees 22 = .ok (.i2l, 1) := by decide +kernel
theorem dX8_degrees_23 : decode cX8_degrees 23 = .ok (.ldiv, 1) := by decide +kernel
theorem dX8_degrees_24 : decode cX8_degrees 24 = .ok (.invokevirtual 91, 3) := by decide +kernel
theorem dX8_degrees_27 : decode cX8_degrees 27 = .ok (.ireturn, 1) := by decide +kernel
theorem dX8_size_0 : decode cX8_size 0 = .ok (.iload_n 0, 1) := by decide +kernel
theorem dX8_size_1 : decode cX8_size 1 = .ok (.ifCond .ge 8, 3) := by decide +kernel
theorem dX8_size_4 : decode cX8_size 4 = .ok (.iload_n 0, 1) := by decide +kernel
theorem dX8_size_5 : decode cX8_size 5 = .ok (.ineg, 1) := by decide +kernel
theorem dX8_size_6 : decode cX8_size 6 = .ok (.goto 4, 3) := by decide +kernel
theorem dX8_size_9 : decode cX8_size 9 = .ok (.iload_n 0, 1) := by decide +kernel
theorem dX8_size_10 : decode cX8_size 10 = .ok (.ireturn, 1) := by decide +kernel
theorem dX8_diagnosed_0 : decode cX8_diagnosed 0 = .ok (.aload_n 0, 1) := by decide +kernel
theorem dX8_diagnosed_1 : decode cX8_diagnosed 1 = .ok (.iload_n 1, 1) := by decide +kernel
theorem dX8_diagnosed_2 : decode cX8_diagnosed 2 = .ok (.bipush 13, 2) := by decide +kernel
theorem dX8_diagnosed_4 : decode cX8_diagnosed 4 = .ok (.invokevirtual 43, 3) := by decide +kernel
theorem dX8_diagnosed_7 : decode cX8_diagnosed 7 = .ok (.iconst (-1), 1) := by decide +kernel
theorem dX8_diagnosed_8 : decode cX8_diagnosed 8 = .ok (.if_icmp .ne 5, 3) := by decide +kernel
theorem dX8_diagnosed_11 : decode cX8_diagnosed 11 = .ok (.iconst 1, 1) := by decide +kernel
theorem dX8_diagnosed_12 : decode cX8_diagnosed 12 = .ok (.ireturn, 1) := by decide +kernel
theorem dX8_diagnosed_13 : decode cX8_diagnosed 13 = .ok (.aload_n 0, 1) := by decide +kernel
theorem dX8_diagnosed_14 : decode cX8_diagnosed 14 = .ok (.iload_n 1, 1) := by decide +kernel
theorem dX8_diagnosed_15 : decode cX8_diagnosed 15 = .ok (.bipush 12, 2) := by decide +kernel
theorem dX8_diagnosed_17 : decode cX8_diagnosed 17 = .ok (.invokevirtual 43, 3) := by decide +kernel
theorem dX8_diagnosed_20 : decode cX8_diagnosed 20 = .ok (.ifCond .eq 5, 3) := by decide +kernel
theorem dX8_diagnosed_23 : decode cX8_diagnosed 23 = .ok (.iconst 2, 1) := by decide +kernel
theorem dX8_diagnosed_24 : decode cX8_diagnosed 24 = .ok (.ireturn, 1) := by decide +kernel
theorem dX8_diagnosed_25 : decode cX8_diagnosed 25 = .ok (.aload_n 0, 1) := by decide +kernel
theorem dX8_diagnosed_26 : decode cX8_diagnosed 26 = .ok (.iload_n 1, 1) := by decide +kernel
theorem dX8_diagnosed_27 : decode cX8_diagnosed 27 = .ok (.invokevirtual 131, 3) := by decide +kernel
theorem dX8_diagnosed_30 : decode cX8_diagnosed 30 = .ok (.aload_n 0, 1) := by decide +kernel
theorem dX8_diagnosed_31 : decode cX8_diagnosed 31 = .ok (.iload_n 1, 1) := by decide +kernel
theorem dX8_diagnosed_32 : decode cX8_diagnosed 32 = .ok (.iconst 3, 1) := by decide +kernel
theorem dX8_diagnosed_33 : decode cX8_diagnosed 33 = .ok (.invokevirtual 43, 3) := by decide +kernel
theorem dX8_diagnosed_36 : decode cX8_diagnosed 36 = .ok (.bipush 10, 2) := by decide +kernel
theorem dX8_diagnosed_38 : decode cX8_diagnosed 38 = .ok (.idiv, 1) := by decide +kernel
theorem dX8_diagnosed_39 : decode cX8_diagnosed 39 = .ok (.i2l, 1) := by decide +kernel
theorem dX8_diagnosed_40 : decode cX8_diagnosed 40 = .ok (.lcmp, 1) := by decide +kernel
theorem dX8_diagnosed_41 : decode cX8_diagnosed 41 = .ok (.ifCond .ge 5, 3) := by decide +kernel
theorem dX8_diagnosed_44 : decode cX8_diagnosed 44 = .ok (.iconst 3, 1) := by decide +kernel
theorem dX8_diagnosed_45 : decode cX8_diagnosed 45 = .ok (.ireturn, 1) := by decide +kernel
theorem dX8_diagnosed_46 : decode cX8_diagnosed 46 = .ok (.aload_n 0, 1) := by decide +kernel
theorem dX8_diagnosed_47 : decode cX8_diagnosed 47 = .ok (.iload_n 1, 1) := by decide +kernel
theorem dX8_diagnosed_48 : decode cX8_diagnosed 48 = .ok (.aload_n 0, 1) := by decide +kernel
theorem dX8_diagnosed_49 : decode cX8_diagnosed 49 = .ok (.getfield 7, 3) := by decide +kernel
theorem dX8_diagnosed_52 : decode cX8_diagnosed 52 = .ok (.iconst 3, 1) := by decide +kernel
theorem dX8_diagnosed_53 : decode cX8_diagnosed 53 = .ok (.iaload, 1) := by decide +kernel
theorem dX8_diagnosed_54 : decode cX8_diagnosed 54 = .ok (.invokevirtual 176, 3) := by decide +kernel
theorem dX8_diagnosed_57 : decode cX8_diagnosed 57 = .ok (.ifCond .ne 17, 3) := by decide +kernel
theorem dX8_diagnosed_60 : decode cX8_diagnosed 60 = .ok (.aload_n 0, 1) := by decide +kernel
theorem dX8_diagnosed_61 : decode cX8_diagnosed 61 = .ok (.iload_n 1, 1) := by decide +kernel
theorem dX8_diagnosed_62 : decode cX8_diagnosed 62 = .ok (.aload_n 0, 1) := by decide +kernel
theorem dX8_diagnosed_63 : decode cX8_diagnosed 63 = .ok (.getfield 7, 3) := by decide +kernel
theorem dX8_diagnosed_66 : decode cX8_diagnosed 66 = .ok (.iconst 4, 1) := by decide +kernel
theorem dX8_diagnosed_67 : decode cX8_diagnosed 67 = .ok (.iaload, 1) := by decide +kernel
theorem dX8_diagnosed_68 : decode cX8_diagnosed 68 = .ok (.invokevirtual 176, 3) := by decide +kernel
theorem dX8_diagnosed_71 : decode cX8_diagnosed 71 = .ok (.ifCond .eq 5, 3) := by decide +kernel
theorem dX8_diagnosed_74 : decode cX8_diagnosed 74 = .ok (.iconst 4, 1) := by decide +kernel
theorem dX8_diagnosed_75 : decode cX8_diagnosed 75 = .ok (.ireturn, 1) := by decide +kernel
theorem dX8_diagnosed_76 : decode cX8_diagnosed 76 = .ok (.aload_n 0, 1) := by decide +kernel
theorem dX8_diagnosed_77 : decode cX8_diagnosed 77 = .ok (.iload_n 1, 1) := by decide +kernel
theorem dX8_diagnosed_78 : decode cX8_diagnosed 78 = .ok (.iconst 1, 1) := by decide +kernel
theorem dX8_diagnosed_79 : decode cX8_diagnosed 79 = .ok (.invokevirtual 43, 3) := by decide +kernel
theorem dX8_diagnosed_82 : decode cX8_diagnosed 82 = .ok (.iconst 3, 1) := by decide +kernel
theorem dX8_diagnosed_83 : decode cX8_diagnosed 83 = .ok (.if_icmp .ne 32, 3) := by decide +kernel
theorem dX8_diagnosed_86 : decode cX8_diagnosed 86 = .ok (.aload_n 0, 1) := by decide +kernel
theorem dX8_diagnosed_87 : decode cX8_diagnosed 87 = .ok (.iload_n 1, 1) := by decide +kernel
theorem dX8_diagnosed_88 : decode cX8_diagnosed 88 = .ok (.iconst 5, 1) := by decide +kernel
theorem dX8_diagnosed_89 : decode cX8_diagnosed 89 = .ok (.invokevirtual 43, 3) := by decide +kernel
theorem dX8_diagnosed_92 : decode cX8_diagnosed 92 = .ok (.aload_n 0, 1) := by decide +kernel
theorem dX8_diagnosed_93 : decode cX8_diagnosed 93 = .ok (.iload_n 1, 1) := by decide +kernel
theorem dX8_diagnosed_94 : decode cX8_diagnosed 94 = .ok (.bipush 6, 2) := by decide +kernel
theorem dX8_diagnosed_96 : decode cX8_diagnosed 96 = .ok (.invokevirtual 43, 3) := by decide +kernel
theorem dX8_diagnosed_99 : decode cX8_diagnosed 99 = .ok (.isub, 1) := by decide +kernel
theorem dX8_diagnosed_100 : decode cX8_diagnosed 100 = .ok (.invokestatic 179, 3) := by decide +kernel
theorem dX8_diagnosed_103 : decode cX8_diagnosed 103 = .ok (.aload_n 0, 1) := by decide +kernel
theorem dX8_diagnosed_104 : decode cX8_diagnosed 104 = .ok (.getfield 7, 3) := by decide +kernel
theorem dX8_diagnosed_107 : decode cX8_diagnosed 107 = .ok (.bipush 6, 2) := by decide +kernel
theorem dX8_diagnosed_109 : decode cX8_diagnosed 109 = .ok (.iaload, 1) := by decide +kernel
theorem dX8_diagnosed_110 : decode cX8_diagnosed 110 = .ok (.if_icmp .le 5, 3) := by decide +kernel
theorem dX8_diagnosed_113 : decode cX8_diagnosed 113 = .ok (.iconst 5, 1) := by decide +kernel
theorem dX8_diagnosed_114 : decode cX8_diagnosed 114 = .ok (.ireturn, 1) := by decide +kernel
theorem dX8_diagnosed_115 : decode cX8_diagnosed 115 = .ok (.aload_n 0, 1) := by decide +kernel
theorem dX8_diagnosed_116 : decode cX8_diagnosed 116 = .ok (.iload_n 1, 1) := by decide +kernel
theorem dX8_diagnosed_117 : decode cX8_diagnosed 117 = .ok (.bipush 10, 2) := by decide +kernel
theorem dX8_diagnosed_119 : decode cX8_diagnosed 119 = .ok (.invokevirtual 43, 3) := by decide +kernel
theorem dX8_diagnosed_122 : decode cX8_diagnosed 122 = .ok (.invokestatic 179, 3) := by decide +kernel
theorem dX8_diagnosed_125 : decode cX8_diagnosed 125 = .ok (.aload_n 0, 1) := by decide +kernel
theorem dX8_diagnosed_126 : decode cX8_diagnosed 126 = .ok (.getfield 7, 3) := by decide +kernel
theorem dX8_diagnosed_129 : decode cX8_diagnosed 129 = .ok (.bipush 7, 2) := by decide +kernel
theorem dX8_diagnosed_131 : decode cX8_diagnosed 131 = .ok (.iaload, 1) := by decide +kernel
theorem dX8_diagnosed_132 : decode cX8_diagnosed 132 = .ok (.if_icmp .le 6, 3) := by decide +kernel
theorem dX8_diagnosed_135 : decode cX8_diagnosed 135 = .ok (.bipush 6, 2) := by decide +kernel
theorem dX8_diagnosed_137 : decode cX8_diagnosed 137 = .ok (.ireturn, 1) := by decide +kernel
theorem dX8_diagnosed_138 : decode cX8_diagnosed 138 = .ok (.aload_n 0, 1) := by decide +kernel
theorem dX8_diagnosed_139 : decode cX8_diagnosed 139 = .ok (.iload_n 1, 1) := by decide +kernel
theorem dX8_diagnosed_140 : decode cX8_diagnosed 140 = .ok (.invokevirtual 182, 3) := by decide +kernel
theorem dX8_diagnosed_143 : decode cX8_diagnosed 143 = .ok (.ldc 68, 2) := by decide +kernel
theorem dX8_diagnosed_145 : decode cX8_diagnosed 145 = .ok (.if_icmp .ne 8, 3) := by decide +kernel
theorem dX8_diagnosed_148 : decode cX8_diagnosed 148 = .ok (.bipush 7, 2) := by decide +kernel
theorem dX8_diagnosed_150 : decode cX8_diagnosed 150 = .ok (.goto 4, 3) := by decide +kernel
theorem dX8_diagnosed_153 : decode cX8_diagnosed 153 = .ok (.iconst 0, 1) := by decide +kernel
theorem dX8_diagnosed_154 : decode cX8_diagnosed 154 = .ok (.ireturn, 1) := by decide +kernel
theorem dX8_counts_0 : decode cX8_counts 0 = .ok (.aload_n 0, 1) := by decide +kernel
theorem dX8_counts_1 : decode cX8_counts 1 = .ok (.iload_n 1, 1) := by decide +kernel
theorem dX8_counts_2 : decode cX8_counts 2 = .ok (.invokevirtual 39, 3) := by decide +kernel
theorem dX8_counts_5 : decode cX8_counts 5 = .ok (.ifCond .eq 34, 3) := by decide +kernel
theorem dX8_counts_8 : decode cX8_counts 8 = .ok (.iload_n 2, 1) := by decide +kernel
theorem dX8_counts_9 : decode cX8_counts 9 = .ok (.bipush 100, 2) := by decide +kernel
theorem dX8_counts_11 : decode cX8_counts 11 = .ok (.sipush 5000, 3) := by decide +kernel
theorem dX8_counts_14 : decode cX8_counts 14 = .ok (.invokestatic 35, 3) := by decide +kernel
theorem dX8_counts_17 : decode cX8_counts 17 = .ok (.ifCond .eq 22, 3) := by decide +kernel
theorem dX8_counts_20 : decode cX8_counts 20 = .ok (.iload_n 3, 1) := by decide +kernel
theorem dX8_counts_21 : decode cX8_counts 21 = .ok (.iconst 0, 1) := by decide +kernel
theorem dX8_counts_22 : decode cX8_counts 22 = .ok (.iconst 1, 1) := by decide +kernel
theorem dX8_counts_23 : decode cX8_counts 23 = .ok (.invokestatic 35, 3) := by decide +kernel
theorem dX8_counts_26 : decode cX8_counts 26 = .ok (.ifCond .eq 13, 3) := by decide +kernel
theorem dX8_counts_29 : decode cX8_counts 29 = .ok (.iload 4, 2) := by decide +kernel
theorem dX8_counts_31 : decode cX8_counts 31 = .ok (.iconst 0, 1) := by decide +kernel
theorem dX8_counts_32 : decode cX8_counts 32 = .ok (.iconst 2, 1) := by decide +kernel
theorem dX8_counts_33 : decode cX8_counts 33 = .ok (.invokestatic 35, 3) := by decide +kernel
theorem dX8_counts_36 : decode cX8_counts 36 = .ok (.ifCond .ne 6, 3) := by decide +kernel
theorem dX8_counts_39 : decode cX8_counts 39 = .ok (.ldc 47, 2) := by decide +kernel
theorem dX8_counts_41 : decode cX8_counts 41 = .ok (.ireturn, 1) := by decide +kernel
theorem dX8_counts_42 : decode cX8_counts 42 = .ok (.iload_n 3, 1) := by decide +kernel
theorem dX8_counts_43 : decode cX8_counts 43 = .ok (.iconst 1, 1) := by decide +kernel
theorem dX8_counts_44 : decode cX8_counts 44 = .ok (.if_icmp .ne 18, 3) := by decide +kernel
theorem dX8_counts_47 : decode cX8_counts 47 = .ok (.aload_n 0, 1) := by decide +kernel
theorem dX8_counts_48 : decode cX8_counts 48 = .ok (.iload_n 1, 1) := by decide +kernel
theorem dX8_counts_49 : decode cX8_counts 49 = .ok (.iconst 1, 1) := by decide +kernel
theorem dX8_counts_50 : decode cX8_counts 50 = .ok (.invokevirtual 43, 3) := by decide +kernel
theorem dX8_counts_53 : decode cX8_counts 53 = .ok (.iconst 3, 1) := by decide +kernel
theorem dX8_counts_54 : decode cX8_counts 54 = .ok (.if_icmp .eq 8, 3) := by decide +kernel
theorem dX8_counts_57 : decode cX8_counts 57 = .ok (.ldc 68, 2) := by decide +kernel
theorem dX8_counts_59 : decode cX8_counts 59 = .ok (.goto 13, 3) := by decide +kernel
theorem dX8_counts_62 : decode cX8_counts 62 = .ok (.aload_n 0, 1) := by decide +kernel
theorem dX8_counts_63 : decode cX8_counts 63 = .ok (.iload_n 1, 1) := by decide +kernel
theorem dX8_counts_64 : decode cX8_counts 64 = .ok (.iload_n 2, 1) := by decide +kernel
theorem dX8_counts_65 : decode cX8_counts 65 = .ok (.iload_n 3, 1) := by decide +kernel
theorem dX8_counts_66 : decode cX8_counts 66 = .ok (.iload 4, 2) := by decide +kernel
theorem dX8_counts_68 : decode cX8_counts 68 = .ok (.invokevirtual 162, 3) := by decide +kernel
theorem dX8_counts_71 : decode cX8_counts 71 = .ok (.l2i, 1) := by decide +kernel
theorem dX8_counts_72 : decode cX8_counts 72 = .ok (.ireturn, 1) := by decide +kernel
theorem dX8_ohms_0 : decode cX8_ohms 0 = .ok (.aload_n 0, 1) := by decide +kernel
theorem dX8_ohms_1 : decode cX8_ohms 1 = .ok (.iload_n 1, 1) := by decide +kernel
theorem dX8_ohms_2 : decode cX8_ohms 2 = .ok (.invokevirtual 39, 3) := by decide +kernel
theorem dX8_ohms_5 : decode cX8_ohms 5 = .ok (.ifCond .eq 12, 3) := by decide +kernel
theorem dX8_ohms_8 : decode cX8_ohms 8 = .ok (.iload_n 2, 1) := by decide +kernel
theorem dX8_ohms_9 : decode cX8_ohms 9 = .ok (.iconst 0, 1) := by decide +kernel
theorem dX8_ohms_10 : decode cX8_ohms 10 = .ok (.iconst 5, 1) := by decide +kernel
theorem dX8_ohms_11 : decode cX8_ohms 11 = .ok (.invokestatic 35, 3) := by decide +kernel
theorem dX8_ohms_14 : decode cX8_ohms 14 = .ok (.ifCond .ne 6, 3) := by decide +kernel
theorem dX8_ohms_17 : decode cX8_ohms 17 = .ok (.ldc 47, 2) := by decide +kernel
theorem dX8_ohms_19 : decode cX8_ohms 19 = .ok (.ireturn, 1) := by decide +kernel
theorem dX8_ohms_20 : decode cX8_ohms 20 = .ok (.iload_n 2, 1) := by decide +kernel
theorem dX8_ohms_21 : decode cX8_ohms 21 = .ok (.tableswitch 102 0 4 #[35, 48, 48, 76, 89], 35) := by decide +kernel
theorem dX8_ohms_56 : decode cX8_ohms 56 = .ok (.aload_n 0, 1) := by decide +kernel
theorem dX8_ohms_57 : decode cX8_ohms 57 = .ok (.iload_n 1, 1) := by decide +kernel
theorem dX8_ohms_58 : decode cX8_ohms 58 = .ok (.aload_n 0, 1) := by decide +kernel
theorem dX8_ohms_59 : decode cX8_ohms 59 = .ok (.getfield 7, 3) := by decide +kernel
theorem dX8_ohms_62 : decode cX8_ohms 62 = .ok (.iconst 3, 1) := by decide +kernel
theorem dX8_ohms_63 : decode cX8_ohms 63 = .ok (.iaload, 1) := by decide +kernel
theorem dX8_ohms_64 : decode cX8_ohms 64 = .ok (.invokevirtual 146, 3) := by decide +kernel
theorem dX8_ohms_67 : decode cX8_ohms 67 = .ok (.l2i, 1) := by decide +kernel
theorem dX8_ohms_68 : decode cX8_ohms 68 = .ok (.ireturn, 1) := by decide +kernel
theorem dX8_ohms_69 : decode cX8_ohms 69 = .ok (.aload_n 0, 1) := by decide +kernel
theorem dX8_ohms_70 : decode cX8_ohms 70 = .ok (.aload_n 0, 1) := by decide +kernel
theorem dX8_ohms_71 : decode cX8_ohms 71 = .ok (.iload_n 1, 1) := by decide +kernel
theorem dX8_ohms_72 : decode cX8_ohms 72 = .ok (.aload_n 0, 1) := by decide +kernel
theorem dX8_ohms_73 : decode cX8_ohms 73 = .ok (.getfield 7, 3) := by decide +kernel
theorem dX8_ohms_76 : decode cX8_ohms 76 = .ok (.iconst 3, 1) := by decide +kernel
theorem dX8_ohms_77 : decode cX8_ohms 77 = .ok (.iaload, 1) := by decide +kernel
theorem dX8_ohms_78 : decode cX8_ohms 78 = .ok (.iconst 0, 1) := by decide +kernel
theorem dX8_ohms_79 : decode cX8_ohms 79 = .ok (.iload_n 2, 1) := by decide +kernel
theorem dX8_ohms_80 : decode cX8_ohms 80 = .ok (.iconst 1, 1) := by decide +kernel
theorem dX8_ohms_81 : decode cX8_ohms 81 = .ok (.if_icmp .ne 7, 3) := by decide +kernel
theorem dX8_ohms_84 : decode cX8_ohms 84 = .ok (.iconst 0, 1) := by decide +kernel
theorem dX8_ohms_85 : decode cX8_ohms 85 = .ok (.goto 4, 3) := by decide +kernel
theorem dX8_ohms_88 : decode cX8_ohms 88 = .ok (.iconst 2, 1) := by decide +kernel
theorem dX8_ohms_89 : decode cX8_ohms 89 = .ok (.invokevirtual 162, 3) := by decide +kernel
theorem dX8_ohms_92 : decode cX8_ohms 92 = .ok (.invokevirtual 165, 3) := by decide +kernel
theorem dX8_ohms_95 : decode cX8_ohms 95 = .ok (.l2i, 1) := by decide +kernel
theorem dX8_ohms_96 : decode cX8_ohms 96 = .ok (.ireturn, 1) := by decide +kernel
theorem dX8_ohms_97 : decode cX8_ohms 97 = .ok (.aload_n 0, 1) := by decide +kernel
theorem dX8_ohms_98 : decode cX8_ohms 98 = .ok (.iload_n 1, 1) := by decide +kernel
theorem dX8_ohms_99 : decode cX8_ohms 99 = .ok (.aload_n 0, 1) := by decide +kernel
theorem dX8_ohms_100 : decode cX8_ohms 100 = .ok (.getfield 7, 3) := by decide +kernel
theorem dX8_ohms_103 : decode cX8_ohms 103 = .ok (.iconst 3, 1) := by decide +kernel
theorem dX8_ohms_104 : decode cX8_ohms 104 = .ok (.iaload, 1) := by decide +kernel
theorem dX8_ohms_105 : decode cX8_ohms 105 = .ok (.invokevirtual 169, 3) := by decide +kernel
theorem dX8_ohms_108 : decode cX8_ohms 108 = .ok (.l2i, 1) := by decide +kernel
theorem dX8_ohms_109 : decode cX8_ohms 109 = .ok (.ireturn, 1) := by decide +kernel
theorem dX8_ohms_110 : decode cX8_ohms 110 = .ok (.aload_n 0, 1) := by decide +kernel
theorem dX8_ohms_111 : decode cX8_ohms 111 = .ok (.iload_n 1, 1) := by decide +kernel
theorem dX8_ohms_112 : decode cX8_ohms 112 = .ok (.aload_n 0, 1) := by decide +kernel
theorem dX8_ohms_113 : decode cX8_ohms 113 = .ok (.getfield 7, 3) := by decide +kernel
theorem dX8_ohms_116 : decode cX8_ohms 116 = .ok (.iconst 4, 1) := by decide +kernel
theorem dX8_ohms_117 : decode cX8_ohms 117 = .ok (.iaload, 1) := by decide +kernel
theorem dX8_ohms_118 : decode cX8_ohms 118 = .ok (.invokevirtual 169, 3) := by decide +kernel
theorem dX8_ohms_121 : decode cX8_ohms 121 = .ok (.l2i, 1) := by decide +kernel
theorem dX8_ohms_122 : decode cX8_ohms 122 = .ok (.ireturn, 1) := by decide +kernel
theorem dX8_ohms_123 : decode cX8_ohms 123 = .ok (.aload_n 0, 1) := by decide +kernel
theorem dX8_ohms_124 : decode cX8_ohms 124 = .ok (.iload_n 1, 1) := by decide +kernel
theorem dX8_ohms_125 : decode cX8_ohms 125 = .ok (.invokevirtual 131, 3) := by decide +kernel
theorem dX8_ohms_128 : decode cX8_ohms 128 = .ok (.l2i, 1) := by decide +kernel
theorem dX8_ohms_129 : decode cX8_ohms 129 = .ok (.ireturn, 1) := by decide +kernel
theorem dX8_diagnosis_0 : decode cX8_diagnosis 0 = .ok (.aload_n 0, 1) := by decide +kernel
theorem dX8_diagnosis_1 : decode cX8_diagnosis 1 = .ok (.iload_n 1, 1) := by decide +kernel
theorem dX8_diagnosis_2 : decode cX8_diagnosis 2 = .ok (.invokevirtual 39, 3) := by decide +kernel
theorem dX8_diagnosis_5 : decode cX8_diagnosis 5 = .ok (.ifCond .eq 11, 3) := by decide +kernel
theorem dX8_diagnosis_8 : decode cX8_diagnosis 8 = .ok (.aload_n 0, 1) := by decide +kernel
theorem dX8_diagnosis_9 : decode cX8_diagnosis 9 = .ok (.iload_n 1, 1) := by decide +kernel
theorem dX8_diagnosis_10 : decode cX8_diagnosis 10 = .ok (.invokevirtual 128, 3) := by decide +kernel
theorem dX8_diagnosis_13 : decode cX8_diagnosis 13 = .ok (.goto 5, 3) := by decide +kernel
theorem dX8_diagnosis_16 : decode cX8_diagnosis 16 = .ok (.ldc 47, 2) := by decide +kernel
theorem dX8_diagnosis_18 : decode cX8_diagnosis 18 = .ok (.ireturn, 1) := by decide +kernel
theorem dX8_alarms_0 : decode cX8_alarms 0 = .ok (.aload_n 0, 1) := by decide +kernel
theorem dX8_alarms_1 : decode cX8_alarms 1 = .ok (.iload_n 1, 1) := by decide +kernel
theorem dX8_alarms_2 : decode cX8_alarms 2 = .ok (.bipush 14, 2) := by decide +kernel
theorem dX8_alarms_4 : decode cX8_alarms 4 = .ok (.invokevirtual 43, 3) := by decide +kernel
theorem dX8_alarms_7 : decode cX8_alarms 7 = .ok (.istore_n 3, 1) := by decide +kernel
theorem dX8_alarms_8 : decode cX8_alarms 8 = .ok (.aload_n 0, 1) := by decide +kernel
theorem dX8_alarms_9 : decode cX8_alarms 9 = .ok (.iload_n 1, 1) := by decide +kernel
theorem dX8_alarms_10 : decode cX8_alarms 10 = .ok (.bipush 15, 2) := by decide +kernel
theorem dX8_alarms_12 : decode cX8_alarms 12 = .ok (.invokevirtual 43, 3) := by decide +kernel
theorem dX8_alarms_15 : decode cX8_alarms 15 = .ok (.istore 4, 2) := by decide +kernel
theorem dX8_alarms_17 : decode cX8_alarms 17 = .ok (.aload_n 0, 1) := by decide +kernel
theorem dX8_alarms_18 : decode cX8_alarms 18 = .ok (.iload_n 1, 1) := by decide +kernel
theorem dX8_alarms_19 : decode cX8_alarms 19 = .ok (.bipush 16, 2) := by decide +kernel
theorem dX8_alarms_21 : decode cX8_alarms 21 = .ok (.invokevirtual 43, 3) := by decide +kernel
theorem dX8_alarms_24 : decode cX8_alarms 24 = .ok (.istore 5, 2) := by decide +kernel
theorem dX8_alarms_26 : decode cX8_alarms 26 = .ok (.aload_n 0, 1) := by decide +kernel
theorem dX8_alarms_27 : decode cX8_alarms 27 = .ok (.iload_n 1, 1) := by decide +kernel
theorem dX8_alarms_28 : decode cX8_alarms 28 = .ok (.bipush 17, 2) := by decide +kernel
theorem dX8_alarms_30 : decode cX8_alarms 30 = .ok (.invokevirtual 43, 3) := by decide +kernel
theorem dX8_alarms_33 : decode cX8_alarms 33 = .ok (.ifCond .ne 29, 3) := by decide +kernel
theorem dX8_alarms_36 : decode cX8_alarms 36 = .ok (.aload_n 0, 1) := by decide +kernel
theorem dX8_alarms_37 : decode cX8_alarms 37 = .ok (.iload_n 1, 1) := by decide +kernel
theorem dX8_alarms_38 : decode cX8_alarms 38 = .ok (.bipush 17, 2) := by decide +kernel
theorem dX8_alarms_40 : decode cX8_alarms 40 = .ok (.iload_n 2, 1) := by decide +kernel
theorem dX8_alarms_41 : decode cX8_alarms 41 = .ok (.iload_n 3, 1) := by decide +kernel
theorem dX8_alarms_42 : decode cX8_alarms 42 = .ok (.if_icmp .lt 9, 3) := by decide +kernel
theorem dX8_alarms_45 : decode cX8_alarms 45 = .ok (.iload_n 2, 1) := by decide +kernel
theorem dX8_alarms_46 : decode cX8_alarms 46 = .ok (.iload 4, 2) := by decide +kernel
theorem dX8_alarms_48 : decode cX8_alarms 48 = .ok (.if_icmp .le 7, 3) := by decide +kernel
theorem dX8_alarms_51 : decode cX8_alarms 51 = .ok (.iconst 1, 1) := by decide +kernel
theorem dX8_alarms_52 : decode cX8_alarms 52 = .ok (.goto 4, 3) := by decide +kernel
theorem dX8_alarms_55 : decode cX8_alarms 55 = .ok (.iconst 0, 1) := by decide +kernel
theorem dX8_alarms_56 : decode cX8_alarms 56 = .ok (.invokevirtual 96, 3) := by decide +kernel
theorem dX8_alarms_59 : decode cX8_alarms 59 = .ok (.goto 32, 3) := by decide +kernel
theorem dX8_alarms_62 : decode cX8_alarms 62 = .ok (.aload_n 0, 1) := by decide +kernel
theorem dX8_alarms_63 : decode cX8_alarms 63 = .ok (.iload_n 1, 1) := by decide +kernel
theorem dX8_alarms_64 : decode cX8_alarms 64 = .ok (.bipush 17, 2) := by decide +kernel
theorem dX8_alarms_66 : decode cX8_alarms 66 = .ok (.iload_n 2, 1) := by decide +kernel
theorem dX8_alarms_67 : decode cX8_alarms 67 = .ok (.iload_n 3, 1) := by decide +kernel
theorem dX8_alarms_68 : decode cX8_alarms 68 = .ok (.iload 5, 2) := by decide +kernel
theorem dX8_alarms_70 : decode cX8_alarms 70 = .ok (.iadd, 1) := by decide +kernel
theorem dX8_alarms_71 : decode cX8_alarms 71 = .ok (.if_icmp .lt 16, 3) := by decide +kernel
theorem dX8_alarms_74 : decode cX8_alarms 74 = .ok (.iload_n 2, 1) := by decide +kernel
theorem dX8_alarms_75 : decode cX8_alarms 75 = .ok (.iload 4, 2) := by decide +kernel
theorem dX8_alarms_77 : decode cX8_alarms 77 = .ok (.iload 5, 2) := by decide +kernel
theorem dX8_alarms_79 : decode cX8_alarms 79 = .ok (.isub, 1) := by decide +kernel
theorem dX8_alarms_80 : decode cX8_alarms 80 = .ok (.if_icmp .gt 7, 3) := by decide +kernel
theorem dX8_alarms_83 : decode cX8_alarms 83 = .ok (.iconst 0, 1) := by decide +kernel
theorem dX8_alarms_84 : decode cX8_alarms 84 = .ok (.goto 4, 3) := by decide +kernel
theorem dX8_alarms_87 : decode cX8_alarms 87 = .ok (.iconst 1, 1) := by decide +kernel
theorem dX8_alarms_88 : decode cX8_alarms 88 = .ok (.invokevirtual 96, 3) := by decide +kernel
theorem dX8_alarms_91 : decode cX8_alarms 91 = .ok (.return_, 1) := by decide +kernel
theorem dX8_reads_0 : decode cX8_reads 0 = .ok (.aload_n 0, 1) := by decide +kernel
theorem dX8_reads_1 : decode cX8_reads 1 = .ok (.iload_n 1, 1) := by decide +kernel
theorem dX8_reads_2 : decode cX8_reads 2 = .ok (.invokevirtual 39, 3) := by decide +kernel
theorem dX8_reads_5 : decode cX8_reads 5 = .ok (.ifCond .ne 6, 3) := by decide +kernel
theorem dX8_reads_8 : decode cX8_reads 8 = .ok (.ldc 47, 2) := by decide +kernel
theorem dX8_reads_10 : decode cX8_reads 10 = .ok (.ireturn, 1) := by decide +kernel
theorem dX8_reads_11 : decode cX8_reads 11 = .ok (.aload_n 0, 1) := by decide +kernel
theorem dX8_reads_12 : decode cX8_reads 12 = .ok (.iload_n 1, 1) := by decide +kernel
theorem dX8_reads_13 : decode cX8_reads 13 = .ok (.invokevirtual 128, 3) := by decide +kernel
theorem dX8_reads_16 : decode cX8_reads 16 = .ok (.ifCond .eq 6, 3) := by decide +kernel
theorem dX8_reads_19 : decode cX8_reads 19 = .ok (.ldc 86, 2) := by decide +kernel
theorem dX8_reads_21 : decode cX8_reads 21 = .ok (.ireturn, 1) := by decide +kernel
theorem dX8_reads_22 : decode cX8_reads 22 = .ok (.aload_n 0, 1) := by decide +kernel
theorem dX8_reads_23 : decode cX8_reads 23 = .ok (.iload_n 1, 1) := by decide +kernel
theorem dX8_reads_24 : decode cX8_reads 24 = .ok (.invokevirtual 182, 3) := by decide +kernel
theorem dX8_reads_27 : decode cX8_reads 27 = .ok (.istore_n 2, 1) := by decide +kernel
theorem dX8_reads_28 : decode cX8_reads 28 = .ok (.aload_n 0, 1) := by decide +kernel
theorem dX8_reads_29 : decode cX8_reads 29 = .ok (.iload_n 1, 1) := by decide +kernel
theorem dX8_reads_30 : decode cX8_reads 30 = .ok (.bipush 19, 2) := by decide +kernel
theorem dX8_reads_32 : decode cX8_reads 32 = .ok (.invokevirtual 43, 3) := by decide +kernel
theorem dX8_reads_35 : decode cX8_reads 35 = .ok (.bipush 9, 2) := by decide +kernel
theorem dX8_reads_37 : decode cX8_reads 37 = .ok (.if_icmp .ne 46, 3) := by decide +kernel
theorem dX8_reads_40 : decode cX8_reads 40 = .ok (.iconst 0, 1) := by decide +kernel
theorem dX8_reads_41 : decode cX8_reads 41 = .ok (.istore_n 3, 1) := by decide +kernel
theorem dX8_reads_42 : decode cX8_reads 42 = .ok (.iload_n 3, 1) := by decide +kernel
theorem dX8_reads_43 : decode cX8_reads 43 = .ok (.bipush 8, 2) := by decide +kernel
theorem dX8_reads_45 : decode cX8_reads 45 = .ok (.if_icmp .ge 29, 3) := by decide +kernel
theorem dX8_reads_48 : decode cX8_reads 48 = .ok (.aload_n 0, 1) := by decide +kernel
theorem dX8_reads_49 : decode cX8_reads 49 = .ok (.iload_n 1, 1) := by decide +kernel
theorem dX8_reads_50 : decode cX8_reads 50 = .ok (.bipush 20, 2) := by decide +kernel
theorem dX8_reads_52 : decode cX8_reads 52 = .ok (.iload_n 3, 1) := by decide +kernel
theorem dX8_reads_53 : decode cX8_reads 53 = .ok (.iadd, 1) := by decide +kernel
theorem dX8_reads_54 : decode cX8_reads 54 = .ok (.aload_n 0, 1) := by decide +kernel
theorem dX8_reads_55 : decode cX8_reads 55 = .ok (.iload_n 1, 1) := by decide +kernel
theorem dX8_reads_56 : decode cX8_reads 56 = .ok (.bipush 20, 2) := by decide +kernel
theorem dX8_reads_58 : decode cX8_reads 58 = .ok (.iload_n 3, 1) := by decide +kernel
theorem dX8_reads_59 : decode cX8_reads 59 = .ok (.iadd, 1) := by decide +kernel
theorem dX8_reads_60 : decode cX8_reads 60 = .ok (.iconst 1, 1) := by decide +kernel
theorem dX8_reads_61 : decode cX8_reads 61 = .ok (.iadd, 1) := by decide +kernel
theorem dX8_reads_62 : decode cX8_reads 62 = .ok (.invokevirtual 43, 3) := by decide +kernel
theorem dX8_reads_65 : decode cX8_reads 65 = .ok (.invokevirtual 96, 3) := by decide +kernel
theorem dX8_reads_68 : decode cX8_reads 68 = .ok (.iinc 3 1, 3) := by decide +kernel
theorem dX8_reads_71 : decode cX8_reads 71 = .ok (.goto (-29), 3) := by decide +kernel
theorem dX8_reads_74 : decode cX8_reads 74 = .ok (.aload_n 0, 1) := by decide +kernel
theorem dX8_reads_75 : decode cX8_reads 75 = .ok (.iload_n 1, 1) := by decide +kernel
theorem dX8_reads_76 : decode cX8_reads 76 = .ok (.bipush 19, 2) := by decide +kernel
theorem dX8_reads_78 : decode cX8_reads 78 = .ok (.bipush 8, 2) := by decide +kernel
theorem dX8_reads_80 : decode cX8_reads 80 = .ok (.invokevirtual 96, 3) := by decide +kernel
theorem dX8_reads_83 : decode cX8_reads 83 = .ok (.aload_n 0, 1) := by decide +kernel
theorem dX8_reads_84 : decode cX8_reads 84 = .ok (.iload_n 1, 1) := by decide +kernel
theorem dX8_reads_85 : decode cX8_reads 85 = .ok (.bipush 20, 2) := by decide +kernel
theorem dX8_reads_87 : decode cX8_reads 87 = .ok (.aload_n 0, 1) := by decide +kernel
theorem dX8_reads_88 : decode cX8_reads 88 = .ok (.iload_n 1, 1) := by decide +kernel
theorem dX8_reads_89 : decode cX8_reads 89 = .ok (.bipush 19, 2) := by decide +kernel
theorem dX8_reads_91 : decode cX8_reads 91 = .ok (.invokevirtual 43, 3) := by decide +kernel
theorem dX8_reads_94 : decode cX8_reads 94 = .ok (.iadd, 1) := by decide +kernel
theorem dX8_reads_95 : decode cX8_reads 95 = .ok (.iload_n 2, 1) := by decide +kernel
theorem dX8_reads_96 : decode cX8_reads 96 = .ok (.invokevirtual 96, 3) := by decide +kernel
theorem dX8_reads_99 : decode cX8_reads 99 = .ok (.aload_n 0, 1) := by decide +kernel
theorem dX8_reads_100 : decode cX8_reads 100 = .ok (.iload_n 1, 1) := by decide +kernel
theorem dX8_reads_101 : decode cX8_reads 101 = .ok (.bipush 19, 2) := by decide +kernel
theorem dX8_reads_103 : decode cX8_reads 103 = .ok (.aload_n 0, 1) := by decide +kernel
theorem dX8_reads_104 : decode cX8_reads 104 = .ok (.iload_n 1, 1) := by decide +kernel
theorem dX8_reads_105 : decode cX8_reads 105 = .ok (.bipush 19, 2) := by decide +kernel
theorem dX8_reads_107 : decode cX8_reads 107 = .ok (.invokevirtual 43, 3) := by decide +kernel
theorem dX8_reads_110 : decode cX8_reads 110 = .ok (.iconst 1, 1) := by decide +kernel
theorem dX8_reads_111 : decode cX8_reads 111 = .ok (.iadd, 1) := by decide +kernel
theorem dX8_reads_112 : decode cX8_reads 112 = .ok (.invokevirtual 96, 3) := by decide +kernel
theorem dX8_reads_115 : decode cX8_reads 115 = .ok (.aload_n 0, 1) := by decide +kernel
theorem dX8_reads_116 : decode cX8_reads 116 = .ok (.iload_n 1, 1) := by decide +kernel
theorem dX8_reads_117 : decode cX8_reads 117 = .ok (.bipush 18, 2) := by decide +kernel
theorem dX8_reads_119 : decode cX8_reads 119 = .ok (.aload_n 0, 1) := by decide +kernel
theorem dX8_reads_120 : decode cX8_reads 120 = .ok (.iload_n 1, 1) := by decide +kernel
theorem dX8_reads_121 : decode cX8_reads 121 = .ok (.bipush 18, 2) := by decide +kernel
theorem dX8_reads_123 : decode cX8_reads 123 = .ok (.invokevirtual 43, 3) := by decide +kernel
theorem dX8_reads_126 : decode cX8_reads 126 = .ok (.iconst 1, 1) := by decide +kernel
theorem dX8_reads_127 : decode cX8_reads 127 = .ok (.iadd, 1) := by decide +kernel
theorem dX8_reads_128 : decode cX8_reads 128 = .ok (.invokevirtual 96, 3) := by decide +kernel
theorem dX8_reads_131 : decode cX8_reads 131 = .ok (.aload_n 0, 1) := by decide +kernel
theorem dX8_reads_132 : decode cX8_reads 132 = .ok (.iload_n 1, 1) := by decide +kernel
theorem dX8_reads_133 : decode cX8_reads 133 = .ok (.iload_n 2, 1) := by decide +kernel
theorem dX8_reads_134 : decode cX8_reads 134 = .ok (.invokevirtual 185, 3) := by decide +kernel
theorem dX8_reads_137 : decode cX8_reads 137 = .ok (.iload_n 2, 1) := by decide +kernel
theorem dX8_reads_138 : decode cX8_reads 138 = .ok (.ireturn, 1) := by decide +kernel
theorem dX8_read_0 : decode cX8_read 0 = .ok (.aload_n 0, 1) := by decide +kernel
theorem dX8_read_1 : decode cX8_read 1 = .ok (.invokevirtual 73, 3) := by decide +kernel
theorem dX8_read_4 : decode cX8_read 4 = .ok (.aload_n 0, 1) := by decide +kernel
theorem dX8_read_5 : decode cX8_read 5 = .ok (.aload_n 0, 1) := by decide +kernel
theorem dX8_read_6 : decode cX8_read 6 = .ok (.iload_n 1, 1) := by decide +kernel
theorem dX8_read_7 : decode cX8_read 7 = .ok (.invokevirtual 189, 3) := by decide +kernel
theorem dX8_read_10 : decode cX8_read 10 = .ok (.invokevirtual 76, 3) := by decide +kernel
theorem dX8_read_13 : decode cX8_read 13 = .ok (.ireturn, 1) := by decide +kernel
theorem dX8_scans_0 : decode cX8_scans 0 = .ok (.aload_n 0, 1) := by decide +kernel
theorem dX8_scans_1 : decode cX8_scans 1 = .ok (.getfield 7, 3) := by decide +kernel
theorem dX8_scans_4 : decode cX8_scans 4 = .ok (.bipush 9, 2) := by decide +kernel
theorem dX8_scans_6 : decode cX8_scans 6 = .ok (.iaload, 1) := by decide +kernel
theorem dX8_scans_7 : decode cX8_scans 7 = .ok (.iconst (-1), 1) := by decide +kernel
theorem dX8_scans_8 : decode cX8_scans 8 = .ok (.if_icmp .ne 8, 3) := by decide +kernel
theorem dX8_scans_11 : decode cX8_scans 11 = .ok (.bipush 11, 2) := by decide +kernel
theorem dX8_scans_13 : decode cX8_scans 13 = .ok (.goto 26, 3) := by decide +kernel
theorem dX8_scans_16 : decode cX8_scans 16 = .ok (.iconst 3, 1) := by decide +kernel
theorem dX8_scans_17 : decode cX8_scans 17 = .ok (.aload_n 0, 1) := by decide +kernel
theorem dX8_scans_18 : decode cX8_scans 18 = .ok (.getfield 7, 3) := by decide +kernel
theorem dX8_scans_21 : decode cX8_scans 21 = .ok (.bipush 9, 2) := by decide +kernel
theorem dX8_scans_23 : decode cX8_scans 23 = .ok (.iaload, 1) := by decide +kernel
theorem dX8_scans_24 : decode cX8_scans 24 = .ok (.bipush 10, 2) := by decide +kernel
theorem dX8_scans_26 : decode cX8_scans 26 = .ok (.idiv, 1) := by decide +kernel
theorem dX8_scans_27 : decode cX8_scans 27 = .ok (.imul, 1) := by decide +kernel
theorem dX8_scans_28 : decode cX8_scans 28 = .ok (.aload_n 0, 1) := by decide +kernel
theorem dX8_scans_29 : decode cX8_scans 29 = .ok (.getfield 7, 3) := by decide +kernel
theorem dX8_scans_32 : decode cX8_scans 32 = .ok (.bipush 9, 2) := by decide +kernel
theorem dX8_scans_34 : decode cX8_scans 34 = .ok (.iaload, 1) := by decide +kernel
theorem dX8_scans_35 : decode cX8_scans 35 = .ok (.bipush 10, 2) := by decide +kernel
theorem dX8_scans_37 : decode cX8_scans 37 = .ok (.irem, 1) := by decide +kernel
theorem dX8_scans_38 : decode cX8_scans 38 = .ok (.iadd, 1) := by decide +kernel
theorem dX8_scans_39 : decode cX8_scans 39 = .ok (.istore_n 1, 1) := by decide +kernel
theorem dX8_scans_40 : decode cX8_scans 40 = .ok (.iconst 1, 1) := by decide +kernel
theorem dX8_scans_41 : decode cX8_scans 41 = .ok (.istore_n 2, 1) := by decide +kernel
theorem dX8_scans_42 : decode cX8_scans 42 = .ok (.iload_n 2, 1) := by decide +kernel
theorem dX8_scans_43 : decode cX8_scans 43 = .ok (.bipush 12, 2) := by decide +kernel
theorem dX8_scans_45 : decode cX8_scans 45 = .ok (.if_icmp .gt 76, 3) := by decide +kernel
theorem dX8_scans_48 : decode cX8_scans 48 = .ok (.iload_n 1, 1) := by decide +kernel
theorem dX8_scans_49 : decode cX8_scans 49 = .ok (.iload_n 2, 1) := by decide +kernel
theorem dX8_scans_50 : decode cX8_scans 50 = .ok (.iadd, 1) := by decide +kernel
theorem dX8_scans_51 : decode cX8_scans 51 = .ok (.bipush 12, 2) := by decide +kernel
theorem dX8_scans_53 : decode cX8_scans 53 = .ok (.irem, 1) := by decide +kernel
theorem dX8_scans_54 : decode cX8_scans 54 = .ok (.istore_n 3, 1) := by decide +kernel
theorem dX8_scans_55 : decode cX8_scans 55 = .ok (.aload_n 0, 1) := by decide +kernel
theorem dX8_scans_56 : decode cX8_scans 56 = .ok (.bipush 10, 2) := by decide +kernel
theorem dX8_scans_58 : decode cX8_scans 58 = .ok (.iload_n 3, 1) := by decide +kernel
theorem dX8_scans_59 : decode cX8_scans 59 = .ok (.iconst 3, 1) := by decide +kernel
theorem dX8_scans_60 : decode cX8_scans 60 = .ok (.idiv, 1) := by decide +kernel
theorem dX8_scans_61 : decode cX8_scans 61 = .ok (.imul, 1) := by decide +kernel
theorem dX8_scans_62 : decode cX8_scans 62 = .ok (.iload_n 3, 1) := by decide +kernel
theorem dX8_scans_63 : decode cX8_scans 63 = .ok (.iconst 3, 1) := by decide +kernel
theorem dX8_scans_64 : decode cX8_scans 64 = .ok (.irem, 1) := by decide +kernel
theorem dX8_scans_65 : decode cX8_scans 65 = .ok (.iadd, 1) := by decide +kernel
theorem dX8_scans_66 : decode cX8_scans 66 = .ok (.invokevirtual 100, 3) := by decide +kernel
theorem dX8_scans_69 : decode cX8_scans 69 = .ok (.istore 4, 2) := by decide +kernel
theorem dX8_scans_71 : decode cX8_scans 71 = .ok (.iload 4, 2) := by decide +kernel
theorem dX8_scans_73 : decode cX8_scans 73 = .ok (.iconst (-1), 1) := by decide +kernel
theorem dX8_scans_74 : decode cX8_scans 74 = .ok (.if_icmp .eq 41, 3) := by decide +kernel
theorem dX8_scans_77 : decode cX8_scans 77 = .ok (.aload_n 0, 1) := by decide +kernel
theorem dX8_scans_78 : decode cX8_scans 78 = .ok (.getfield 7, 3) := by decide +kernel
theorem dX8_scans_81 : decode cX8_scans 81 = .ok (.bipush 9, 2) := by decide +kernel
theorem dX8_scans_83 : decode cX8_scans 83 = .ok (.bipush 10, 2) := by decide +kernel
theorem dX8_scans_85 : decode cX8_scans 85 = .ok (.iload_n 3, 1) := by decide +kernel
theorem dX8_scans_86 : decode cX8_scans 86 = .ok (.iconst 3, 1) := by decide +kernel
theorem dX8_scans_87 : decode cX8_scans 87 = .ok (.idiv, 1) := by decide +kernel
theorem dX8_scans_88 : decode cX8_scans 88 = .ok (.imul, 1) := by decide +kernel
theorem dX8_scans_89 : decode cX8_scans 89 = .ok (.iload_n 3, 1) := by decide +kernel
theorem dX8_scans_90 : decode cX8_scans 90 = .ok (.iconst 3, 1) := by decide +kernel
theorem dX8_scans_91 : decode cX8_scans 91 = .ok (.irem, 1) := by decide +kernel
theorem dX8_scans_92 : decode cX8_scans 92 = .ok (.iadd, 1) := by decide +kernel
theorem dX8_scans_93 : decode cX8_scans 93 = .ok (.iastore, 1) := by decide +kernel
theorem dX8_scans_94 : decode cX8_scans 94 = .ok (.aload_n 0, 1) := by decide +kernel
theorem dX8_scans_95 : decode cX8_scans 95 = .ok (.iload 4, 2) := by decide +kernel
theorem dX8_scans_97 : decode cX8_scans 97 = .ok (.invokevirtual 189, 3) := by decide +kernel
theorem dX8_scans_100 : decode cX8_scans 100 = .ok (.ldc 47, 2) := by decide +kernel
theorem dX8_scans_102 : decode cX8_scans 102 = .ok (.if_icmp .le 8, 3) := by decide +kernel
theorem dX8_scans_105 : decode cX8_scans 105 = .ok (.iload 4, 2) := by decide +kernel
theorem dX8_scans_107 : decode cX8_scans 107 = .ok (.goto 7, 3) := by decide +kernel
theorem dX8_scans_110 : decode cX8_scans 110 = .ok (.iconst (-1), 1) := by decide +kernel
theorem dX8_scans_111 : decode cX8_scans 111 = .ok (.iload 4, 2) := by decide +kernel
theorem dX8_scans_113 : decode cX8_scans 113 = .ok (.isub, 1) := by decide +kernel
theorem dX8_scans_114 : decode cX8_scans 114 = .ok (.ireturn, 1) := by decide +kernel
theorem dX8_scans_115 : decode cX8_scans 115 = .ok (.iinc 2 1, 3) := by decide +kernel
theorem dX8_scans_118 : decode cX8_scans 118 = .ok (.goto (-76), 3) := by decide +kernel
theorem dX8_scans_121 : decode cX8_scans 121 = .ok (.ldc 86, 2) := by decide +kernel
theorem dX8_scans_123 : decode cX8_scans 123 = .ok (.ireturn, 1) := by decide +kernel
theorem dX8_scan_0 : decode cX8_scan 0 = .ok (.aload_n 0, 1) := by decide +kernel
theorem dX8_scan_1 : decode cX8_scan 1 = .ok (.invokevirtual 73, 3) := by decide +kernel
theorem dX8_scan_4 : decode cX8_scan 4 = .ok (.aload_n 0, 1) := by decide +kernel
theorem dX8_scan_5 : decode cX8_scan 5 = .ok (.aload_n 0, 1) := by decide +kernel
theorem dX8_scan_6 : decode cX8_scan 6 = .ok (.invokevirtual 192, 3) := by decide +kernel
theorem dX8_scan_9 : decode cX8_scan 9 = .ok (.invokevirtual 76, 3) := by decide +kernel
theorem dX8_scan_12 : decode cX8_scan 12 = .ok (.ireturn, 1) := by decide +kernel
theorem dX8_readingAt_0 : decode cX8_readingAt 0 = .ok (.aload_n 0, 1) := by decide +kernel
theorem dX8_readingAt_1 : decode cX8_readingAt 1 = .ok (.iload_n 1, 1) := by decide +kernel
theorem dX8_readingAt_2 : decode cX8_readingAt 2 = .ok (.invokevirtual 39, 3) := by decide +kernel
theorem dX8_readingAt_5 : decode cX8_readingAt 5 = .ok (.ifCond .eq 7, 3) := by decide +kernel
theorem dX8_readingAt_8 : decode cX8_readingAt 8 = .ok (.iload_n 2, 1) := by decide +kernel
theorem dX8_readingAt_9 : decode cX8_readingAt 9 = .ok (.ifCond .ge 6, 3) := by decide +kernel
theorem dX8_readingAt_12 : decode cX8_readingAt 12 = .ok (.ldc 47, 2) := by decide +kernel
theorem dX8_readingAt_14 : decode cX8_readingAt 14 = .ok (.ireturn, 1) := by decide +kernel
theorem dX8_readingAt_15 : decode cX8_readingAt 15 = .ok (.aload_n 0, 1) := by decide +kernel
theorem dX8_readingAt_16 : decode cX8_readingAt 16 = .ok (.iload_n 1, 1) := by decide +kernel
theorem dX8_readingAt_17 : decode cX8_readingAt 17 = .ok (.bipush 19, 2) := by decide +kernel
theorem dX8_readingAt_19 : decode cX8_readingAt 19 = .ok (.invokevirtual 43, 3) := by decide +kernel
theorem dX8_readingAt_22 : decode cX8_readingAt 22 = .ok (.istore_n 3, 1) := by decide +kernel
theorem dX8_readingAt_23 : decode cX8_readingAt 23 = .ok (.iload_n 2, 1) := by decide +kernel
theorem dX8_readingAt_24 : decode cX8_readingAt 24 = .ok (.iload_n 3, 1) := by decide +kernel
theorem dX8_readingAt_25 : decode cX8_readingAt 25 = .ok (.if_icmp .ge 19, 3) := by decide +kernel
theorem dX8_readingAt_28 : decode cX8_readingAt 28 = .ok (.aload_n 0, 1) := by decide +kernel
theorem dX8_readingAt_29 : decode cX8_readingAt 29 = .ok (.iload_n 1, 1) := by decide +kernel
theorem dX8_readingAt_30 : decode cX8_readingAt 30 = .ok (.bipush 20, 2) := by decide +kernel
theorem dX8_readingAt_32 : decode cX8_readingAt 32 = .ok (.iload_n 3, 1) := by decide +kernel
theorem dX8_readingAt_33 : decode cX8_readingAt 33 = .ok (.iadd, 1) := by decide +kernel
theorem dX8_readingAt_34 : decode cX8_readingAt 34 = .ok (.iconst 1, 1) := by decide +kernel
theorem dX8_readingAt_35 : decode cX8_readingAt 35 = .ok (.isub, 1) := by decide +kernel
theorem dX8_readingAt_36 : decode cX8_readingAt 36 = .ok (.iload_n 2, 1) := by decide +kernel
theorem dX8_readingAt_37 : decode cX8_readingAt 37 = .ok (.isub, 1) := by decide +kernel
theorem dX8_readingAt_38 : decode cX8_readingAt 38 = .ok (.invokevirtual 43, 3) := by decide +kernel
theorem dX8_readingAt_41 : decode cX8_readingAt 41 = .ok (.goto 5, 3) := by decide +kernel
theorem dX8_readingAt_44 : decode cX8_readingAt 44 = .ok (.ldc 68, 2) := by decide +kernel
theorem dX8_readingAt_46 : decode cX8_readingAt 46 = .ok (.ireturn, 1) := by decide +kernel
theorem dX8_median_0 : decode cX8_median 0 = .ok (.aload_n 0, 1) := by decide +kernel
theorem dX8_median_1 : decode cX8_median 1 = .ok (.iload_n 1, 1) := by decide +kernel
theorem dX8_median_2 : decode cX8_median 2 = .ok (.invokevirtual 39, 3) := by decide +kernel
theorem dX8_median_5 : decode cX8_median 5 = .ok (.ifCond .ne 6, 3) := by decide +kernel
theorem dX8_median_8 : decode cX8_median 8 = .ok (.ldc 47, 2) := by decide +kernel
theorem dX8_median_10 : decode cX8_median 10 = .ok (.ireturn, 1) := by decide +kernel
theorem dX8_median_11 : decode cX8_median 11 = .ok (.aload_n 0, 1) := by decide +kernel
theorem dX8_median_12 : decode cX8_median 12 = .ok (.iload_n 1, 1) := by decide +kernel
theorem dX8_median_13 : decode cX8_median 13 = .ok (.bipush 19, 2) := by decide +kernel
theorem dX8_median_15 : decode cX8_median 15 = .ok (.invokevirtual 43, 3) := by decide +kernel
theorem dX8_median_18 : decode cX8_median 18 = .ok (.istore_n 2, 1) := by decide +kernel
theorem dX8_median_19 : decode cX8_median 19 = .ok (.aload_n 0, 1) := by decide +kernel
theorem dX8_median_20 : decode cX8_median 20 = .ok (.getfield 7, 3) := by decide +kernel
theorem dX8_median_23 : decode cX8_median 23 = .ok (.bipush 8, 2) := by decide +kernel
theorem dX8_median_25 : decode cX8_median 25 = .ok (.iaload, 1) := by decide +kernel
theorem dX8_median_26 : decode cX8_median 26 = .ok (.iload_n 2, 1) := by decide +kernel
theorem dX8_median_27 : decode cX8_median 27 = .ok (.if_icmp .ge 13, 3) := by decide +kernel
theorem dX8_median_30 : decode cX8_median 30 = .ok (.aload_n 0, 1) := by decide +kernel
theorem dX8_median_31 : decode cX8_median 31 = .ok (.getfield 7, 3) := by decide +kernel
theorem dX8_median_34 : decode cX8_median 34 = .ok (.bipush 8, 2) := by decide +kernel
theorem dX8_median_36 : decode cX8_median 36 = .ok (.iaload, 1) := by decide +kernel
theorem dX8_median_37 : decode cX8_median 37 = .ok (.goto 4, 3) := by decide +kernel
theorem dX8_median_40 : decode cX8_median 40 = .ok (.iload_n 2, 1) := by decide +kernel
theorem dX8_median_41 : decode cX8_median 41 = .ok (.istore_n 3, 1) := by decide +kernel
theorem dX8_median_42 : decode cX8_median 42 = .ok (.iconst 0, 1) := by decide +kernel
theorem dX8_median_43 : decode cX8_median 43 = .ok (.istore 4, 2) := by decide +kernel
theorem dX8_median_45 : decode cX8_median 45 = .ok (.iload 4, 2) := by decide +kernel
theorem dX8_median_47 : decode cX8_median 47 = .ok (.iload_n 3, 1) := by decide +kernel
theorem dX8_median_48 : decode cX8_median 48 = .ok (.if_icmp .ge 79, 3) := by decide +kernel
theorem dX8_median_51 : decode cX8_median 51 = .ok (.aload_n 0, 1) := by decide +kernel
theorem dX8_median_52 : decode cX8_median 52 = .ok (.iload_n 1, 1) := by decide +kernel
theorem dX8_median_53 : decode cX8_median 53 = .ok (.bipush 20, 2) := by decide +kernel
theorem dX8_median_55 : decode cX8_median 55 = .ok (.iload_n 2, 1) := by decide +kernel
theorem dX8_median_56 : decode cX8_median 56 = .ok (.iadd, 1) := by decide +kernel
theorem dX8_median_57 : decode cX8_median 57 = .ok (.iconst 1, 1) := by decide +kernel
theorem dX8_median_58 : decode cX8_median 58 = .ok (.isub, 1) := by decide +kernel
theorem dX8_median_59 : decode cX8_median 59 = .ok (.iload 4, 2) := by decide +kernel
theorem dX8_median_61 : decode cX8_median 61 = .ok (.isub, 1) := by decide +kernel
theorem dX8_median_62 : decode cX8_median 62 = .ok (.invokevirtual 43, 3) := by decide +kernel
theorem dX8_median_65 : decode cX8_median 65 = .ok (.istore 5, 2) := by decide +kernel
theorem dX8_median_67 : decode cX8_median 67 = .ok (.iload 4, 2) := by decide +kernel
theorem dX8_median_69 : decode cX8_median 69 = .ok (.istore 6, 2) := by decide +kernel
theorem dX8_median_71 : decode cX8_median 71 = .ok (.iload 6, 2) := by decide +kernel
theorem dX8_median_73 : decode cX8_median 73 = .ok (.ifCond .le 39, 3) := by decide +kernel
theorem dX8_median_76 : decode cX8_median 76 = .ok (.aload_n 0, 1) := by decide +kernel
theorem dX8_median_77 : decode cX8_median 77 = .ok (.getfield 29, 3) := by decide +kernel
theorem dX8_median_80 : decode cX8_median 80 = .ok (.iload 6, 2) := by decide +kernel
theorem dX8_median_82 : decode cX8_median 82 = .ok (.iconst 1, 1) := by decide +kernel
theorem dX8_median_83 : decode cX8_median 83 = .ok (.isub, 1) := by decide +kernel
theorem dX8_median_84 : decode cX8_median 84 = .ok (.iaload, 1) := by decide +kernel
theorem dX8_median_85 : decode cX8_median 85 = .ok (.iload 5, 2) := by decide +kernel
theorem dX8_median_87 : decode cX8_median 87 = .ok (.if_icmp .le 25, 3) := by decide +kernel
theorem dX8_median_90 : decode cX8_median 90 = .ok (.aload_n 0, 1) := by decide +kernel
theorem dX8_median_91 : decode cX8_median 91 = .ok (.getfield 29, 3) := by decide +kernel
theorem dX8_median_94 : decode cX8_median 94 = .ok (.iload 6, 2) := by decide +kernel
theorem dX8_median_96 : decode cX8_median 96 = .ok (.aload_n 0, 1) := by decide +kernel
theorem dX8_median_97 : decode cX8_median 97 = .ok (.getfield 29, 3) := by decide +kernel
theorem dX8_median_100 : decode cX8_median 100 = .ok (.iload 6, 2) := by decide +kernel
theorem dX8_median_102 : decode cX8_median 102 = .ok (.iconst 1, 1) := by decide +kernel
theorem dX8_median_103 : decode cX8_median 103 = .ok (.isub, 1) := by decide +kernel
theorem dX8_median_104 : decode cX8_median 104 = .ok (.iaload, 1) := by decide +kernel
theorem dX8_median_105 : decode cX8_median 105 = .ok (.iastore, 1) := by decide +kernel
theorem dX8_median_106 : decode cX8_median 106 = .ok (.iinc 6 (-1), 3) := by decide +kernel
theorem dX8_median_109 : decode cX8_median 109 = .ok (.goto (-38), 3) := by decide +kernel
theorem dX8_median_112 : decode cX8_median 112 = .ok (.aload_n 0, 1) := by decide +kernel
theorem dX8_median_113 : decode cX8_median 113 = .ok (.getfield 29, 3) := by decide +kernel
theorem dX8_median_116 : decode cX8_median 116 = .ok (.iload 6, 2) := by decide +kernel
theorem dX8_median_118 : decode cX8_median 118 = .ok (.iload 5, 2) := by decide +kernel
theorem dX8_median_120 : decode cX8_median 120 = .ok (.iastore, 1) := by decide +kernel
theorem dX8_median_121 : decode cX8_median 121 = .ok (.iinc 4 1, 3) := by decide +kernel
theorem dX8_median_124 : decode cX8_median 124 = .ok (.goto (-79), 3) := by decide +kernel
theorem dX8_median_127 : decode cX8_median 127 = .ok (.iload_n 3, 1) := by decide +kernel
theorem dX8_median_128 : decode cX8_median 128 = .ok (.ifCond .ne 8, 3) := by decide +kernel
theorem dX8_median_131 : decode cX8_median 131 = .ok (.ldc 68, 2) := by decide +kernel
theorem dX8_median_133 : decode cX8_median 133 = .ok (.goto 13, 3) := by decide +kernel
theorem dX8_median_136 : decode cX8_median 136 = .ok (.aload_n 0, 1) := by decide +kernel
theorem dX8_median_137 : decode cX8_median 137 = .ok (.getfield 29, 3) := by decide +kernel
theorem dX8_median_140 : decode cX8_median 140 = .ok (.iload_n 3, 1) := by decide +kernel
theorem dX8_median_141 : decode cX8_median 141 = .ok (.iconst 1, 1) := by decide +kernel
theorem dX8_median_142 : decode cX8_median 142 = .ok (.isub, 1) := by decide +kernel
theorem dX8_median_143 : decode cX8_median 143 = .ok (.iconst 2, 1) := by decide +kernel
theorem dX8_median_144 : decode cX8_median 144 = .ok (.idiv, 1) := by decide +kernel
theorem dX8_median_145 : decode cX8_median 145 = .ok (.iaload, 1) := by decide +kernel
theorem dX8_median_146 : decode cX8_median 146 = .ok (.ireturn, 1) := by decide +kernel
theorem dX8_meanBits_0 : decode cX8_meanBits 0 = .ok (.aload_n 0, 1) := by decide +kernel
theorem dX8_meanBits_1 : decode cX8_meanBits 1 = .ok (.iload_n 1, 1) := by decide +kernel
theorem dX8_meanBits_2 : decode cX8_meanBits 2 = .ok (.invokevirtual 39, 3) := by decide +kernel
theorem dX8_meanBits_5 : decode cX8_meanBits 5 = .ok (.ifCond .ne 6, 3) := by decide +kernel
theorem dX8_meanBits_8 : decode cX8_meanBits 8 = .ok (.ldc 47, 2) := by decide +kernel
theorem dX8_meanBits_10 : decode cX8_meanBits 10 = .ok (.ireturn, 1) := by decide +kernel
theorem dX8_meanBits_11 : decode cX8_meanBits 11 = .ok (.aload_n 0, 1) := by decide +kernel
theorem dX8_meanBits_12 : decode cX8_meanBits 12 = .ok (.iload_n 1, 1) := by decide +kernel
theorem dX8_meanBits_13 : decode cX8_meanBits 13 = .ok (.bipush 19, 2) := by decide +kernel
theorem dX8_meanBits_15 : decode cX8_meanBits 15 = .ok (.invokevirtual 43, 3) := by decide +kernel
theorem dX8_meanBits_18 : decode cX8_meanBits 18 = .ok (.istore_n 2, 1) := by decide +kernel
theorem dX8_meanBits_19 : decode cX8_meanBits 19 = .ok (.iload_n 2, 1) := by decide +kernel
theorem dX8_meanBits_20 : decode cX8_meanBits 20 = .ok (.ifCond .ne 6, 3) := by decide +kernel
theorem dX8_meanBits_23 : decode cX8_meanBits 23 = .ok (.ldc 68, 2) := by decide +kernel
theorem dX8_meanBits_25 : decode cX8_meanBits 25 = .ok (.ireturn, 1) := by decide +kernel
theorem dX8_meanBits_26 : decode cX8_meanBits 26 = .ok (.lconst 0, 1) := by decide +kernel
theorem dX8_meanBits_27 : decode cX8_meanBits 27 = .ok (.lstore_n 3, 1) := by decide +kernel
theorem dX8_meanBits_28 : decode cX8_meanBits 28 = .ok (.iconst 0, 1) := by decide +kernel
theorem dX8_meanBits_29 : decode cX8_meanBits 29 = .ok (.istore 5, 2) := by decide +kernel
theorem dX8_meanBits_31 : decode cX8_meanBits 31 = .ok (.iload 5, 2) := by decide +kernel
theorem dX8_meanBits_33 : decode cX8_meanBits 33 = .ok (.iload_n 2, 1) := by decide +kernel
theorem dX8_meanBits_34 : decode cX8_meanBits 34 = .ok (.if_icmp .ge 23, 3) := by decide +kernel
theorem dX8_meanBits_37 : decode cX8_meanBits 37 = .ok (.lload_n 3, 1) := by decide +kernel
theorem dX8_meanBits_38 : decode cX8_meanBits 38 = .ok (.aload_n 0, 1) := by decide +kernel
theorem dX8_meanBits_39 : decode cX8_meanBits 39 = .ok (.iload_n 1, 1) := by decide +kernel
theorem dX8_meanBits_40 : decode cX8_meanBits 40 = .ok (.bipush 20, 2) := by decide +kernel
theorem dX8_meanBits_42 : decode cX8_meanBits 42 = .ok (.iload 5, 2) := by decide +kernel
theorem dX8_meanBits_44 : decode cX8_meanBits 44 = .ok (.iadd, 1) := by decide +kernel
theorem dX8_meanBits_45 : decode cX8_meanBits 45 = .ok (.invokevirtual 43, 3) := by decide +kernel
theorem dX8_meanBits_48 : decode cX8_meanBits 48 = .ok (.i2l, 1) := by decide +kernel
theorem dX8_meanBits_49 : decode cX8_meanBits 49 = .ok (.ladd, 1) := by decide +kernel
theorem dX8_meanBits_50 : decode cX8_meanBits 50 = .ok (.lstore_n 3, 1) := by decide +kernel
theorem dX8_meanBits_51 : decode cX8_meanBits 51 = .ok (.iinc 5 1, 3) := by decide +kernel
theorem dX8_meanBits_54 : decode cX8_meanBits 54 = .ok (.goto (-23), 3) := by decide +kernel
theorem dX8_meanBits_57 : decode cX8_meanBits 57 = .ok (.lload_n 3, 1) := by decide +kernel
theorem dX8_meanBits_58 : decode cX8_meanBits 58 = .ok (.l2d, 1) := by decide +kernel
theorem dX8_meanBits_59 : decode cX8_meanBits 59 = .ok (.iload_n 2, 1) := by decide +kernel
theorem dX8_meanBits_60 : decode cX8_meanBits 60 = .ok (.i2d, 1) := by decide +kernel
theorem dX8_meanBits_61 : decode cX8_meanBits 61 = .ok (.ddiv, 1) := by decide +kernel
theorem dX8_meanBits_62 : decode cX8_meanBits 62 = .ok (.ldc2_w 196, 3) := by decide +kernel
theorem dX8_meanBits_65 : decode cX8_meanBits 65 = .ok (.ddiv, 1) := by decide +kernel
theorem dX8_meanBits_66 : decode cX8_meanBits 66 = .ok (.dstore 5, 2) := by decide +kernel
theorem dX8_meanBits_68 : decode cX8_meanBits 68 = .ok (.dload 5, 2) := by decide +kernel
theorem dX8_meanBits_70 : decode cX8_meanBits 70 = .ok (.d2f, 1) := by decide +kernel
theorem dX8_meanBits_71 : decode cX8_meanBits 71 = .ok (.invokestatic 198, 3) := by decide +kernel
theorem dX8_meanBits_74 : decode cX8_meanBits 74 = .ok (.ireturn, 1) := by decide +kernel
theorem dX8_count_0 : decode cX8_count 0 = .ok (.iconst 0, 1) := by decide +kernel
theorem dX8_count_1 : decode cX8_count 1 = .ok (.istore_n 2, 1) := by decide +kernel
theorem dX8_count_2 : decode cX8_count 2 = .ok (.iconst 0, 1) := by decide +kernel
theorem dX8_count_3 : decode cX8_count 3 = .ok (.istore_n 3, 1) := by decide +kernel
theorem dX8_count_4 : decode cX8_count 4 = .ok (.iconst 0, 1) := by decide +kernel
theorem dX8_count_5 : decode cX8_count 5 = .ok (.istore 4, 2) := by decide +kernel
theorem dX8_count_7 : decode cX8_count 7 = .ok (.iconst 0, 1) := by decide +kernel
theorem dX8_count_8 : decode cX8_count 8 = .ok (.istore 5, 2) := by decide +kernel
theorem dX8_count_10 : decode cX8_count 10 = .ok (.iload 5, 2) := by decide +kernel
theorem dX8_count_12 : decode cX8_count 12 = .ok (.aload_n 0, 1) := by decide +kernel
theorem dX8_count_13 : decode cX8_count 13 = .ok (.getfield 7, 3) := by decide +kernel
theorem dX8_count_16 : decode cX8_count 16 = .ok (.iconst 1, 1) := by decide +kernel
theorem dX8_count_17 : decode cX8_count 17 = .ok (.iaload, 1) := by decide +kernel
theorem dX8_count_18 : decode cX8_count 18 = .ok (.if_icmp .ge 53, 3) := by decide +kernel
theorem dX8_count_21 : decode cX8_count 21 = .ok (.iload_n 2, 1) := by decide +kernel
theorem dX8_count_22 : decode cX8_count 22 = .ok (.aload_n 0, 1) := by decide +kernel
theorem dX8_count_23 : decode cX8_count 23 = .ok (.iload 5, 2) := by decide +kernel
theorem dX8_count_25 : decode cX8_count 25 = .ok (.bipush 13, 2) := by decide +kernel
theorem dX8_count_27 : decode cX8_count 27 = .ok (.invokevirtual 43, 3) := by decide +kernel
theorem dX8_count_30 : decode cX8_count 30 = .ok (.iconst (-1), 1) := by decide +kernel
theorem dX8_count_31 : decode cX8_count 31 = .ok (.if_icmp .ne 7, 3) := by decide +kernel
theorem dX8_count_34 : decode cX8_count 34 = .ok (.iconst 0, 1) := by decide +kernel
theorem dX8_count_35 : decode cX8_count 35 = .ok (.goto 4, 3) := by decide +kernel
theorem dX8_count_38 : decode cX8_count 38 = .ok (.iconst 1, 1) := by decide +kernel
theorem dX8_count_39 : decode cX8_count 39 = .ok (.iadd, 1) := by decide +kernel
theorem dX8_count_40 : decode cX8_count 40 = .ok (.istore_n 2, 1) := by decide +kernel
theorem dX8_count_41 : decode cX8_count 41 = .ok (.iload_n 3, 1) := by decide +kernel
theorem dX8_count_42 : decode cX8_count 42 = .ok (.aload_n 0, 1) := by decide +kernel
theorem dX8_count_43 : decode cX8_count 43 = .ok (.iload 5, 2) := by decide +kernel
theorem dX8_count_45 : decode cX8_count 45 = .ok (.bipush 17, 2) := by decide +kernel
theorem dX8_count_47 : decode cX8_count 47 = .ok (.invokevirtual 43, 3) := by decide +kernel
theorem dX8_count_50 : decode cX8_count 50 = .ok (.iadd, 1) := by decide +kernel
theorem dX8_count_51 : decode cX8_count 51 = .ok (.istore_n 3, 1) := by decide +kernel
theorem dX8_count_52 : decode cX8_count 52 = .ok (.iload 4, 2) := by decide +kernel
theorem dX8_count_54 : decode cX8_count 54 = .ok (.aload_n 0, 1) := by decide +kernel
theorem dX8_count_55 : decode cX8_count 55 = .ok (.iload 5, 2) := by decide +kernel
theorem dX8_count_57 : decode cX8_count 57 = .ok (.bipush 18, 2) := by decide +kernel
theorem dX8_count_59 : decode cX8_count 59 = .ok (.invokevirtual 43, 3) := by decide +kernel
theorem dX8_count_62 : decode cX8_count 62 = .ok (.iadd, 1) := by decide +kernel
theorem dX8_count_63 : decode cX8_count 63 = .ok (.istore 4, 2) := by decide +kernel
theorem dX8_count_65 : decode cX8_count 65 = .ok (.iinc 5 1, 3) := by decide +kernel
theorem dX8_count_68 : decode cX8_count 68 = .ok (.goto (-58), 3) := by decide +kernel
theorem dX8_count_71 : decode cX8_count 71 = .ok (.iload_n 1, 1) := by decide +kernel
theorem dX8_count_72 : decode cX8_count 72 = .ok (.tableswitch 141 0 12 #[68, 68, 75, 77, 79, 82, 106, 111, 141, 141, 116, 116, 116], 68) := by decide +kernel
theorem dX8_count_140 : decode cX8_count 140 = .ok (.aload_n 0, 1) := by decide +kernel
theorem dX8_count_141 : decode cX8_count 141 = .ok (.getfield 7, 3) := by decide +kernel
theorem dX8_count_144 : decode cX8_count 144 = .ok (.iload_n 1, 1) := by decide +kernel
theorem dX8_count_145 : decode cX8_count 145 = .ok (.iaload, 1) := by decide +kernel
theorem dX8_count_146 : decode cX8_count 146 = .ok (.ireturn, 1) := by decide +kernel
theorem dX8_count_147 : decode cX8_count 147 = .ok (.iload_n 2, 1) := by decide +kernel
theorem dX8_count_148 : decode cX8_count 148 = .ok (.ireturn, 1) := by decide +kernel
theorem dX8_count_149 : decode cX8_count 149 = .ok (.iload_n 3, 1) := by decide +kernel
theorem dX8_count_150 : decode cX8_count 150 = .ok (.ireturn, 1) := by decide +kernel
theorem dX8_count_151 : decode cX8_count 151 = .ok (.iload 4, 2) := by decide +kernel
theorem dX8_count_153 : decode cX8_count 153 = .ok (.ireturn, 1) := by decide +kernel
theorem dX8_count_154 : decode cX8_count 154 = .ok (.aload_n 0, 1) := by decide +kernel
theorem dX8_count_155 : decode cX8_count 155 = .ok (.getfield 7, 3) := by decide +kernel
theorem dX8_count_158 : decode cX8_count 158 = .ok (.bipush 9, 2) := by decide +kernel
theorem dX8_count_160 : decode cX8_count 160 = .ok (.iaload, 1) := by decide +kernel
theorem dX8_count_161 : decode cX8_count 161 = .ok (.iconst (-1), 1) := by decide +kernel
theorem dX8_count_162 : decode cX8_count 162 = .ok (.if_icmp .ne 8, 3) := by decide +kernel
theorem dX8_count_165 : decode cX8_count 165 = .ok (.ldc 68, 2) := by decide +kernel
theorem dX8_count_167 : decode cX8_count 167 = .ok (.goto 10, 3) := by decide +kernel
theorem dX8_count_170 : decode cX8_count 170 = .ok (.aload_n 0, 1) := by decide +kernel
theorem dX8_count_171 : decode cX8_count 171 = .ok (.getfield 7, 3) := by decide +kernel
theorem dX8_count_174 : decode cX8_count 174 = .ok (.bipush 9, 2) := by decide +kernel
theorem dX8_count_176 : decode cX8_count 176 = .ok (.iaload, 1) := by decide +kernel
theorem dX8_count_177 : decode cX8_count 177 = .ok (.ireturn, 1) := by decide +kernel
theorem dX8_count_178 : decode cX8_count 178 = .ok (.aload_n 0, 1) := by decide +kernel
theorem dX8_count_179 : decode cX8_count 179 = .ok (.getfield 48, 3) := by decide +kernel
theorem dX8_count_182 : decode cX8_count 182 = .ok (.ireturn, 1) := by decide +kernel
theorem dX8_count_183 : decode cX8_count 183 = .ok (.aload_n 0, 1) := by decide +kernel
theorem dX8_count_184 : decode cX8_count 184 = .ok (.getfield 204, 3) := by decide +kernel
theorem dX8_count_187 : decode cX8_count 187 = .ok (.ireturn, 1) := by decide +kernel
theorem dX8_count_188 : decode cX8_count 188 = .ok (.aload_n 0, 1) := by decide +kernel
theorem dX8_count_189 : decode cX8_count 189 = .ok (.iload_n 1, 1) := by decide +kernel
theorem dX8_count_190 : decode cX8_count 190 = .ok (.bipush 10, 2) := by decide +kernel
theorem dX8_count_192 : decode cX8_count 192 = .ok (.isub, 1) := by decide +kernel
theorem dX8_count_193 : decode cX8_count 193 = .ok (.invokevirtual 79, 3) := by decide +kernel
theorem dX8_count_196 : decode cX8_count 196 = .ok (.ifCond .eq 14, 3) := by decide +kernel
theorem dX8_count_199 : decode cX8_count 199 = .ok (.aload_n 0, 1) := by decide +kernel
theorem dX8_count_200 : decode cX8_count 200 = .ok (.iload_n 1, 1) := by decide +kernel
theorem dX8_count_201 : decode cX8_count 201 = .ok (.bipush 10, 2) := by decide +kernel
theorem dX8_count_203 : decode cX8_count 203 = .ok (.isub, 1) := by decide +kernel
theorem dX8_count_204 : decode cX8_count 204 = .ok (.invokevirtual 55, 3) := by decide +kernel
theorem dX8_count_207 : decode cX8_count 207 = .ok (.goto 5, 3) := by decide +kernel
theorem dX8_count_210 : decode cX8_count 210 = .ok (.ldc 68, 2) := by decide +kernel
theorem dX8_count_212 : decode cX8_count 212 = .ok (.ireturn, 1) := by decide +kernel
theorem dX8_count_213 : decode cX8_count 213 = .ok (.iload_n 1, 1) := by decide +kernel
theorem dX8_count_214 : decode cX8_count 214 = .ok (.bipush 20, 2) := by decide +kernel
theorem dX8_count_216 : decode cX8_count 216 = .ok (.bipush 26, 2) := by decide +kernel
theorem dX8_count_218 : decode cX8_count 218 = .ok (.invokestatic 35, 3) := by decide +kernel
theorem dX8_count_221 : decode cX8_count 221 = .ok (.ifCond .eq 17, 3) := by decide +kernel
theorem dX8_count_224 : decode cX8_count 224 = .ok (.aload_n 0, 1) := by decide +kernel
theorem dX8_count_225 : decode cX8_count 225 = .ok (.getfield 7, 3) := by decide +kernel
theorem dX8_count_228 : decode cX8_count 228 = .ok (.iconst 2, 1) := by decide +kernel
theorem dX8_count_229 : decode cX8_count 229 = .ok (.iload_n 1, 1) := by decide +kernel
theorem dX8_count_230 : decode cX8_count 230 = .ok (.iadd, 1) := by decide +kernel
theorem dX8_count_231 : decode cX8_count 231 = .ok (.bipush 20, 2) := by decide +kernel
theorem dX8_count_233 : decode cX8_count 233 = .ok (.isub, 1) := by decide +kernel
theorem dX8_count_234 : decode cX8_count 234 = .ok (.iaload, 1) := by decide +kernel
theorem dX8_count_235 : decode cX8_count 235 = .ok (.goto 5, 3) := by decide +kernel
theorem dX8_count_238 : decode cX8_count 238 = .ok (.ldc 47, 2) := by decide +kernel
theorem dX8_count_240 : decode cX8_count 240 = .ok (.ireturn, 1) := by decide +kernel
theorem dX8_undo_0 : decode cX8_undo 0 = .ok (.aload_n 0, 1) := by decide +kernel
theorem dX8_undo_1 : decode cX8_undo 1 = .ok (.getfield 48, 3) := by decide +kernel
theorem dX8_undo_4 : decode cX8_undo 4 = .ok (.ifCond .ne 6, 3) := by decide +kernel
theorem dX8_undo_7 : decode cX8_undo 7 = .ok (.ldc 86, 2) := by decide +kernel
theorem dX8_undo_9 : decode cX8_undo 9 = .ok (.ireturn, 1) := by decide +kernel
theorem dX8_undo_10 : decode cX8_undo 10 = .ok (.aload_n 0, 1) := by decide +kernel
theorem dX8_undo_11 : decode cX8_undo 11 = .ok (.dup, 1) := by decide +kernel
theorem dX8_undo_12 : decode cX8_undo 12 = .ok (.getfield 48, 3) := by decide +kernel
theorem dX8_undo_15 : decode cX8_undo 15 = .ok (.iconst 1, 1) := by decide +kernel
theorem dX8_undo_16 : decode cX8_undo 16 = .ok (.isub, 1) := by decide +kernel
theorem dX8_undo_17 : decode cX8_undo 17 = .ok (.putfield 48, 3) := by decide +kernel
theorem dX8_undo_20 : decode cX8_undo 20 = .ok (.iconst 0, 1) := by decide +kernel
theorem dX8_undo_21 : decode cX8_undo 21 = .ok (.istore_n 1, 1) := by decide +kernel
theorem dX8_undo_22 : decode cX8_undo 22 = .ok (.iload_n 1, 1) := by decide +kernel
theorem dX8_undo_23 : decode cX8_undo 23 = .ok (.sipush 259, 3) := by decide +kernel
theorem dX8_undo_26 : decode cX8_undo 26 = .ok (.if_icmp .ge 30, 3) := by decide +kernel
theorem dX8_undo_29 : decode cX8_undo 29 = .ok (.aload_n 0, 1) := by decide +kernel
theorem dX8_undo_30 : decode cX8_undo 30 = .ok (.getfield 7, 3) := by decide +kernel
theorem dX8_undo_33 : decode cX8_undo 33 = .ok (.iload_n 1, 1) := by decide +kernel
theorem dX8_undo_34 : decode cX8_undo 34 = .ok (.aload_n 0, 1) := by decide +kernel
theorem dX8_undo_35 : decode cX8_undo 35 = .ok (.getfield 13, 3) := by decide +kernel
theorem dX8_undo_38 : decode cX8_undo 38 = .ok (.sipush 259, 3) := by decide +kernel
theorem dX8_undo_41 : decode cX8_undo 41 = .ok (.aload_n 0, 1) := by decide +kernel
theorem dX8_undo_42 : decode cX8_undo 42 = .ok (.getfield 48, 3) := by decide +kernel
theorem dX8_undo_45 : decode cX8_undo 45 = .ok (.imul, 1) := by decide +kernel
theorem dX8_undo_46 : decode cX8_undo 46 = .ok (.iload_n 1, 1) := by decide +kernel
theorem dX8_undo_47 : decode cX8_undo 47 = .ok (.iadd, 1) := by decide +kernel
theorem dX8_undo_48 : decode cX8_undo 48 = .ok (.iaload, 1) := by decide +kernel
theorem dX8_undo_49 : decode cX8_undo 49 = .ok (.iastore, 1) := by decide +kernel
theorem dX8_undo_50 : decode cX8_undo 50 = .ok (.iinc 1 1, 3) := by decide +kernel
theorem dX8_undo_53 : decode cX8_undo 53 = .ok (.goto (-31), 3) := by decide +kernel
theorem dX8_undo_56 : decode cX8_undo 56 = .ok (.aload_n 0, 1) := by decide +kernel
theorem dX8_undo_57 : decode cX8_undo 57 = .ok (.getfield 48, 3) := by decide +kernel
theorem dX8_undo_60 : decode cX8_undo 60 = .ok (.ireturn, 1) := by decide +kernel
theorem dX8_type_0 : decode cX8_type 0 = .ok (.iload_n 1, 1) := by decide +kernel
theorem dX8_type_1 : decode cX8_type 1 = .ok (.bipush 32, 2) := by decide +kernel
theorem dX8_type_3 : decode cX8_type 3 = .ok (.bipush 126, 2) := by decide +kernel
theorem dX8_type_5 : decode cX8_type 5 = .ok (.invokestatic 35, 3) := by decide +kernel
theorem dX8_type_8 : decode cX8_type 8 = .ok (.ifCond .ne 6, 3) := by decide +kernel
theorem dX8_type_11 : decode cX8_type 11 = .ok (.ldc 47, 2) := by decide +kernel
theorem dX8_type_13 : decode cX8_type 13 = .ok (.ireturn, 1) := by decide +kernel
theorem dX8_type_14 : decode cX8_type 14 = .ok (.aload_n 0, 1) := by decide +kernel
theorem dX8_type_15 : decode cX8_type 15 = .ok (.getfield 204, 3) := by decide +kernel
theorem dX8_type_18 : decode cX8_type 18 = .ok (.bipush 60, 2) := by decide +kernel
theorem dX8_type_20 : decode cX8_type 20 = .ok (.if_icmp .ne 6, 3) := by decide +kernel
theorem dX8_type_23 : decode cX8_type 23 = .ok (.ldc 72, 2) := by decide +kernel
theorem dX8_type_25 : decode cX8_type 25 = .ok (.ireturn, 1) := by decide +kernel
theorem dX8_type_26 : decode cX8_type 26 = .ok (.aload_n 0, 1) := by decide +kernel
theorem dX8_type_27 : decode cX8_type 27 = .ok (.getfield 22, 3) := by decide +kernel
theorem dX8_type_30 : decode cX8_type 30 = .ok (.aload_n 0, 1) := by decide +kernel
theorem dX8_type_31 : decode cX8_type 31 = .ok (.getfield 204, 3) := by decide +kernel
theorem dX8_type_34 : decode cX8_type 34 = .ok (.iload_n 1, 1) := by decide +kernel
theorem dX8_type_35 : decode cX8_type 35 = .ok (.i2c, 1) := by decide +kernel
theorem dX8_type_36 : decode cX8_type 36 = .ok (.castore, 1) := by decide +kernel
theorem dX8_type_37 : decode cX8_type 37 = .ok (.aload_n 0, 1) := by decide +kernel
theorem dX8_type_38 : decode cX8_type 38 = .ok (.dup, 1) := by decide +kernel
theorem dX8_type_39 : decode cX8_type 39 = .ok (.getfield 204, 3) := by decide +kernel
theorem dX8_type_42 : decode cX8_type 42 = .ok (.iconst 1, 1) := by decide +kernel
theorem dX8_type_43 : decode cX8_type 43 = .ok (.iadd, 1) := by decide +kernel
theorem dX8_type_44 : decode cX8_type 44 = .ok (.putfield 204, 3) := by decide +kernel
theorem dX8_type_47 : decode cX8_type 47 = .ok (.aload_n 0, 1) := by decide +kernel
theorem dX8_type_48 : decode cX8_type 48 = .ok (.getfield 204, 3) := by decide +kernel
theorem dX8_type_51 : decode cX8_type 51 = .ok (.ireturn, 1) := by decide +kernel
theorem dX8_clearText_0 : decode cX8_clearText 0 = .ok (.aload_n 0, 1) := by decide +kernel
theorem dX8_clearText_1 : decode cX8_clearText 1 = .ok (.getfield 204, 3) := by decide +kernel
theorem dX8_clearText_4 : decode cX8_clearText 4 = .ok (.istore_n 1, 1) := by decide +kernel
theorem dX8_clearText_5 : decode cX8_clearText 5 = .ok (.aload_n 0, 1) := by decide +kernel
theorem dX8_clearText_6 : decode cX8_clearText 6 = .ok (.iconst 0, 1) := by decide +kernel
theorem dX8_clearText_7 : decode cX8_clearText 7 = .ok (.putfield 204, 3) := by decide +kernel
theorem dX8_clearText_10 : decode cX8_clearText 10 = .ok (.iload_n 1, 1) := by decide +kernel
theorem dX8_clearText_11 : decode cX8_clearText 11 = .ok (.ireturn, 1) := by decide +kernel
theorem dX8_passes_0 : decode cX8_passes 0 = .ok (.aload_n 0, 1) := by decide +kernel
theorem dX8_passes_1 : decode cX8_passes 1 = .ok (.getfield 207, 3) := by decide +kernel
theorem dX8_passes_4 : decode cX8_passes 4 = .ok (.aload_n 0, 1) := by decide +kernel
theorem dX8_passes_5 : decode cX8_passes 5 = .ok (.getfield 204, 3) := by decide +kernel
theorem dX8_passes_8 : decode cX8_passes 8 = .ok (.if_icmp .ge 20, 3) := by decide +kernel
theorem dX8_passes_11 : decode cX8_passes 11 = .ok (.aload_n 0, 1) := by decide +kernel
theorem dX8_passes_12 : decode cX8_passes 12 = .ok (.getfield 22, 3) := by decide +kernel
theorem dX8_passes_15 : decode cX8_passes 15 = .ok (.aload_n 0, 1) := by decide +kernel
theorem dX8_passes_16 : decode cX8_passes 16 = .ok (.getfield 207, 3) := by decide +kernel
theorem dX8_passes_19 : decode cX8_passes 19 = .ok (.caload, 1) := by decide +kernel
theorem dX8_passes_20 : decode cX8_passes 20 = .ok (.iload_n 1, 1) := by decide +kernel
theorem dX8_passes_21 : decode cX8_passes 21 = .ok (.if_icmp .ne 7, 3) := by decide +kernel
theorem dX8_passes_24 : decode cX8_passes 24 = .ok (.iconst 1, 1) := by decide +kernel
theorem dX8_passes_25 : decode cX8_passes 25 = .ok (.goto 4, 3) := by decide +kernel
theorem dX8_passes_28 : decode cX8_passes 28 = .ok (.iconst 0, 1) := by decide +kernel
theorem dX8_passes_29 : decode cX8_passes 29 = .ok (.istore_n 2, 1) := by decide +kernel
theorem dX8_passes_30 : decode cX8_passes 30 = .ok (.aload_n 0, 1) := by decide +kernel
theorem dX8_passes_31 : decode cX8_passes 31 = .ok (.dup, 1) := by decide +kernel
theorem dX8_passes_32 : decode cX8_passes 32 = .ok (.getfield 207, 3) := by decide +kernel
theorem dX8_passes_35 : decode cX8_passes 35 = .ok (.iload_n 2, 1) := by decide +kernel
theorem dX8_passes_36 : decode cX8_passes 36 = .ok (.ifCond .eq 7, 3) := by decide +kernel
theorem dX8_passes_39 : decode cX8_passes 39 = .ok (.iconst 1, 1) := by decide +kernel
theorem dX8_passes_40 : decode cX8_passes 40 = .ok (.goto 4, 3) := by decide +kernel
theorem dX8_passes_43 : decode cX8_passes 43 = .ok (.iconst 0, 1) := by decide +kernel
theorem dX8_passes_44 : decode cX8_passes 44 = .ok (.iadd, 1) := by decide +kernel
theorem dX8_passes_45 : decode cX8_passes 45 = .ok (.putfield 207, 3) := by decide +kernel
theorem dX8_passes_48 : decode cX8_passes 48 = .ok (.iload_n 2, 1) := by decide +kernel
theorem dX8_passes_49 : decode cX8_passes 49 = .ok (.ireturn, 1) := by decide +kernel
theorem dX8_takes_0 : decode cX8_takes 0 = .ok (.aload_n 0, 1) := by decide +kernel
theorem dX8_takes_1 : decode cX8_takes 1 = .ok (.getfield 207, 3) := by decide +kernel
theorem dX8_takes_4 : decode cX8_takes 4 = .ok (.istore_n 2, 1) := by decide +kernel
theorem dX8_takes_5 : decode cX8_takes 5 = .ok (.aload_n 0, 1) := by decide +kernel
theorem dX8_takes_6 : decode cX8_takes 6 = .ok (.getfield 26, 3) := by decide +kernel
theorem dX8_takes_9 : decode cX8_takes 9 = .ok (.iload_n 1, 1) := by decide +kernel
theorem dX8_takes_10 : decode cX8_takes 10 = .ok (.iconst 0, 1) := by decide +kernel
theorem dX8_takes_11 : decode cX8_takes 11 = .ok (.iastore, 1) := by decide +kernel
theorem dX8_takes_12 : decode cX8_takes 12 = .ok (.aload_n 0, 1) := by decide +kernel
theorem dX8_takes_13 : decode cX8_takes 13 = .ok (.getfield 207, 3) := by decide +kernel
theorem dX8_takes_16 : decode cX8_takes 16 = .ok (.aload_n 0, 1) := by decide +kernel
theorem dX8_takes_17 : decode cX8_takes 17 = .ok (.getfield 204, 3) := by decide +kernel
theorem dX8_takes_20 : decode cX8_takes 20 = .ok (.if_icmp .ge 74, 3) := by decide +kernel
theorem dX8_takes_23 : decode cX8_takes 23 = .ok (.aload_n 0, 1) := by decide +kernel
theorem dX8_takes_24 : decode cX8_takes 24 = .ok (.getfield 207, 3) := by decide +kernel
theorem dX8_takes_27 : decode cX8_takes 27 = .ok (.iload_n 2, 1) := by decide +kernel
theorem dX8_takes_28 : decode cX8_takes 28 = .ok (.bipush 6, 2) := by decide +kernel
theorem dX8_takes_30 : decode cX8_takes 30 = .ok (.iadd, 1) := by decide +kernel
theorem dX8_takes_31 : decode cX8_takes 31 = .ok (.if_icmp .ge 63, 3) := by decide +kernel
theorem dX8_takes_34 : decode cX8_takes 34 = .ok (.aload_n 0, 1) := by decide +kernel
theorem dX8_takes_35 : decode cX8_takes 35 = .ok (.getfield 22, 3) := by decide +kernel
theorem dX8_takes_38 : decode cX8_takes 38 = .ok (.aload_n 0, 1) := by decide +kernel
theorem dX8_takes_39 : decode cX8_takes 39 = .ok (.getfield 207, 3) := by decide +kernel
theorem dX8_takes_42 : decode cX8_takes 42 = .ok (.caload, 1) := by decide +kernel
theorem dX8_takes_43 : decode cX8_takes 43 = .ok (.bipush 48, 2) := by decide +kernel
theorem dX8_takes_45 : decode cX8_takes 45 = .ok (.bipush 57, 2) := by decide +kernel
theorem dX8_takes_47 : decode cX8_takes 47 = .ok (.invokestatic 35, 3) := by decide +kernel
theorem dX8_takes_50 : decode cX8_takes 50 = .ok (.ifCond .eq 44, 3) := by decide +kernel
theorem dX8_takes_53 : decode cX8_takes 53 = .ok (.aload_n 0, 1) := by decide +kernel
theorem dX8_takes_54 : decode cX8_takes 54 = .ok (.getfield 26, 3) := by decide +kernel
theorem dX8_takes_57 : decode cX8_takes 57 = .ok (.iload_n 1, 1) := by decide +kernel
theorem dX8_takes_58 : decode cX8_takes 58 = .ok (.bipush 10, 2) := by decide +kernel
theorem dX8_takes_60 : decode cX8_takes 60 = .ok (.aload_n 0, 1) := by decide +kernel
theorem dX8_takes_61 : decode cX8_takes 61 = .ok (.getfield 26, 3) := by decide +kernel
theorem dX8_takes_64 : decode cX8_takes 64 = .ok (.iload_n 1, 1) := by decide +kernel
theorem dX8_takes_65 : decode cX8_takes 65 = .ok (.iaload, 1) := by decide +kernel
theorem dX8_takes_66 : decode cX8_takes 66 = .ok (.imul, 1) := by decide +kernel
theorem dX8_takes_67 : decode cX8_takes 67 = .ok (.aload_n 0, 1) := by decide +kernel
theorem dX8_takes_68 : decode cX8_takes 68 = .ok (.getfield 22, 3) := by decide +kernel
theorem dX8_takes_71 : decode cX8_takes 71 = .ok (.aload_n 0, 1) := by decide +kernel
theorem dX8_takes_72 : decode cX8_takes 72 = .ok (.getfield 207, 3) := by decide +kernel
theorem dX8_takes_75 : decode cX8_takes 75 = .ok (.caload, 1) := by decide +kernel
theorem dX8_takes_76 : decode cX8_takes 76 = .ok (.iadd, 1) := by decide +kernel
theorem dX8_takes_77 : decode cX8_takes 77 = .ok (.bipush 48, 2) := by decide +kernel
theorem dX8_takes_79 : decode cX8_takes 79 = .ok (.isub, 1) := by decide +kernel
theorem dX8_takes_80 : decode cX8_takes 80 = .ok (.iastore, 1) := by decide +kernel
theorem dX8_takes_81 : decode cX8_takes 81 = .ok (.aload_n 0, 1) := by decide +kernel
theorem dX8_takes_82 : decode cX8_takes 82 = .ok (.dup, 1) := by decide +kernel
theorem dX8_takes_83 : decode cX8_takes 83 = .ok (.getfield 207, 3) := by decide +kernel
theorem dX8_takes_86 : decode cX8_takes 86 = .ok (.iconst 1, 1) := by decide +kernel
theorem dX8_takes_87 : decode cX8_takes 87 = .ok (.iadd, 1) := by decide +kernel
theorem dX8_takes_88 : decode cX8_takes 88 = .ok (.putfield 207, 3) := by decide +kernel
theorem dX8_takes_91 : decode cX8_takes 91 = .ok (.goto (-79), 3) := by decide +kernel
theorem dX8_takes_94 : decode cX8_takes 94 = .ok (.aload_n 0, 1) := by decide +kernel
theorem dX8_takes_95 : decode cX8_takes 95 = .ok (.getfield 207, 3) := by decide +kernel
theorem dX8_takes_98 : decode cX8_takes 98 = .ok (.iload_n 2, 1) := by decide +kernel
theorem dX8_takes_99 : decode cX8_takes 99 = .ok (.if_icmp .le 7, 3) := by decide +kernel
theorem dX8_takes_102 : decode cX8_takes 102 = .ok (.iconst 1, 1) := by decide +kernel
theorem dX8_takes_103 : decode cX8_takes 103 = .ok (.goto 4, 3) := by decide +kernel
theorem dX8_takes_106 : decode cX8_takes 106 = .ok (.iconst 0, 1) := by decide +kernel
theorem dX8_takes_107 : decode cX8_takes 107 = .ok (.ireturn, 1) := by decide +kernel
theorem dX8_readsForm_0 : decode cX8_readsForm 0 = .ok (.iload_n 1, 1) := by decide +kernel
theorem dX8_readsForm_1 : decode cX8_readsForm 1 = .ok (.bipush 115, 2) := by decide +kernel
theorem dX8_readsForm_3 : decode cX8_readsForm 3 = .ok (.if_icmp .eq 27, 3) := by decide +kernel
theorem dX8_readsForm_6 : decode cX8_readsForm 6 = .ok (.iload_n 1, 1) := by decide +kernel
theorem dX8_readsForm_7 : decode cX8_readsForm 7 = .ok (.bipush 114, 2) := by decide +kernel
theorem dX8_readsForm_9 : decode cX8_readsForm 9 = .ok (.if_icmp .eq 21, 3) := by decide +kernel
theorem dX8_readsForm_12 : decode cX8_readsForm 12 = .ok (.iload_n 1, 1) := by decide +kernel
theorem dX8_readsForm_13 : decode cX8_readsForm 13 = .ok (.bipush 116, 2) := by decide +kernel
theorem dX8_readsForm_15 : decode cX8_readsForm 15 = .ok (.if_icmp .eq 15, 3) := by decide +kernel
theorem dX8_readsForm_18 : decode cX8_readsForm 18 = .ok (.iload_n 1, 1) := by decide +kernel
theorem dX8_readsForm_19 : decode cX8_readsForm 19 = .ok (.bipush 98, 2) := by decide +kernel
theorem dX8_readsForm_21 : decode cX8_readsForm 21 = .ok (.if_icmp .eq 9, 3) := by decide +kernel
theorem dX8_readsForm_24 : decode cX8_readsForm 24 = .ok (.iload_n 1, 1) := by decide +kernel
theorem dX8_readsForm_25 : decode cX8_readsForm 25 = .ok (.bipush 109, 2) := by decide +kernel
theorem dX8_readsForm_27 : decode cX8_readsForm 27 = .ok (.if_icmp .ne 7, 3) := by decide +kernel
theorem dX8_readsForm_30 : decode cX8_readsForm 30 = .ok (.iconst 1, 1) := by decide +kernel
theorem dX8_readsForm_31 : decode cX8_readsForm 31 = .ok (.goto 4, 3) := by decide +kernel
theorem dX8_readsForm_34 : decode cX8_readsForm 34 = .ok (.iconst 0, 1) := by decide +kernel
theorem dX8_readsForm_35 : decode cX8_readsForm 35 = .ok (.istore_n 2, 1) := by decide +kernel
theorem dX8_readsForm_36 : decode cX8_readsForm 36 = .ok (.iload_n 2, 1) := by decide +kernel
theorem dX8_readsForm_37 : decode cX8_readsForm 37 = .ok (.ifCond .eq 15, 3) := by decide +kernel
theorem dX8_readsForm_40 : decode cX8_readsForm 40 = .ok (.iload_n 1, 1) := by decide +kernel
theorem dX8_readsForm_41 : decode cX8_readsForm 41 = .ok (.bipush 115, 2) := by decide +kernel
theorem dX8_readsForm_43 : decode cX8_readsForm 43 = .ok (.if_icmp .eq 9, 3) := by decide +kernel
theorem dX8_readsForm_46 : decode cX8_readsForm 46 = .ok (.aload_n 0, 1) := by decide +kernel
theorem dX8_readsForm_47 : decode cX8_readsForm 47 = .ok (.iconst 0, 1) := by decide +kernel
theorem dX8_readsForm_48 : decode cX8_readsForm 48 = .ok (.invokevirtual 210, 3) := by decide +kernel
theorem dX8_readsForm_51 : decode cX8_readsForm 51 = .ok (.istore_n 2, 1) := by decide +kernel
theorem dX8_readsForm_52 : decode cX8_readsForm 52 = .ok (.iload_n 2, 1) := by decide +kernel
theorem dX8_readsForm_53 : decode cX8_readsForm 53 = .ok (.ifCond .eq 97, 3) := by decide +kernel
theorem dX8_readsForm_56 : decode cX8_readsForm 56 = .ok (.iload_n 1, 1) := by decide +kernel
theorem dX8_readsForm_57 : decode cX8_readsForm 57 = .ok (.bipush 116, 2) := by decide +kernel
theorem dX8_readsForm_59 : decode cX8_readsForm 59 = .ok (.if_icmp .eq 15, 3) := by decide +kernel
theorem dX8_readsForm_62 : decode cX8_readsForm 62 = .ok (.iload_n 1, 1) := by decide +kernel
theorem dX8_readsForm_63 : decode cX8_readsForm 63 = .ok (.bipush 98, 2) := by decide +kernel
theorem dX8_readsForm_65 : decode cX8_readsForm 65 = .ok (.if_icmp .eq 9, 3) := by decide +kernel
theorem dX8_readsForm_68 : decode cX8_readsForm 68 = .ok (.iload_n 1, 1) := by decide +kernel
theorem dX8_readsForm_69 : decode cX8_readsForm 69 = .ok (.bipush 109, 2) := by decide +kernel
theorem dX8_readsForm_71 : decode cX8_readsForm 71 = .ok (.if_icmp .ne 79, 3) := by decide +kernel
theorem dX8_readsForm_74 : decode cX8_readsForm 74 = .ok (.aload_n 0, 1) := by decide +kernel
theorem dX8_readsForm_75 : decode cX8_readsForm 75 = .ok (.bipush 44, 2) := by decide +kernel
theorem dX8_readsForm_77 : decode cX8_readsForm 77 = .ok (.invokevirtual 213, 3) := by decide +kernel
theorem dX8_readsForm_80 : decode cX8_readsForm 80 = .ok (.istore_n 2, 1) := by decide +kernel
theorem dX8_readsForm_81 : decode cX8_readsForm 81 = .ok (.iload_n 2, 1) := by decide +kernel
theorem dX8_readsForm_82 : decode cX8_readsForm 82 = .ok (.ifCond .eq 22, 3) := by decide +kernel
theorem dX8_readsForm_85 : decode cX8_readsForm 85 = .ok (.iload_n 1, 1) := by decide +kernel
theorem dX8_readsForm_86 : decode cX8_readsForm 86 = .ok (.bipush 116, 2) := by decide +kernel
theorem dX8_readsForm_88 : decode cX8_readsForm 88 = .ok (.if_icmp .ne 16, 3) := by decide +kernel
theorem dX8_readsForm_91 : decode cX8_readsForm 91 = .ok (.aload_n 0, 1) := by decide +kernel
theorem dX8_readsForm_92 : decode cX8_readsForm 92 = .ok (.bipush 45, 2) := by decide +kernel
theorem dX8_readsForm_94 : decode cX8_readsForm 94 = .ok (.invokevirtual 213, 3) := by decide +kernel
theorem dX8_readsForm_97 : decode cX8_readsForm 97 = .ok (.ifCond .eq 7, 3) := by decide +kernel
theorem dX8_readsForm_100 : decode cX8_readsForm 100 = .ok (.iconst 1, 1) := by decide +kernel
theorem dX8_readsForm_101 : decode cX8_readsForm 101 = .ok (.goto 4, 3) := by decide +kernel
theorem dX8_readsForm_104 : decode cX8_readsForm 104 = .ok (.iconst 0, 1) := by decide +kernel
theorem dX8_readsForm_105 : decode cX8_readsForm 105 = .ok (.istore_n 3, 1) := by decide +kernel
theorem dX8_readsForm_106 : decode cX8_readsForm 106 = .ok (.iload_n 2, 1) := by decide +kernel
theorem dX8_readsForm_107 : decode cX8_readsForm 107 = .ok (.ifCond .eq 15, 3) := by decide +kernel
theorem dX8_readsForm_110 : decode cX8_readsForm 110 = .ok (.aload_n 0, 1) := by decide +kernel
theorem dX8_readsForm_111 : decode cX8_readsForm 111 = .ok (.iconst 1, 1) := by decide +kernel
theorem dX8_readsForm_112 : decode cX8_readsForm 112 = .ok (.invokevirtual 210, 3) := by decide +kernel
theorem dX8_readsForm_115 : decode cX8_readsForm 115 = .ok (.ifCond .eq 7, 3) := by decide +kernel
theorem dX8_readsForm_118 : decode cX8_readsForm 118 = .ok (.iconst 1, 1) := by decide +kernel
theorem dX8_readsForm_119 : decode cX8_readsForm 119 = .ok (.goto 4, 3) := by decide +kernel
theorem dX8_readsForm_122 : decode cX8_readsForm 122 = .ok (.iconst 0, 1) := by decide +kernel
theorem dX8_readsForm_123 : decode cX8_readsForm 123 = .ok (.istore_n 2, 1) := by decide +kernel
theorem dX8_readsForm_124 : decode cX8_readsForm 124 = .ok (.aload_n 0, 1) := by decide +kernel
theorem dX8_readsForm_125 : decode cX8_readsForm 125 = .ok (.getfield 26, 3) := by decide +kernel
theorem dX8_readsForm_128 : decode cX8_readsForm 128 = .ok (.iconst 1, 1) := by decide +kernel
theorem dX8_readsForm_129 : decode cX8_readsForm 129 = .ok (.iload_n 3, 1) := by decide +kernel
theorem dX8_readsForm_130 : decode cX8_readsForm 130 = .ok (.ifCond .eq 13, 3) := by decide +kernel
theorem dX8_readsForm_133 : decode cX8_readsForm 133 = .ok (.aload_n 0, 1) := by decide +kernel
theorem dX8_readsForm_134 : decode cX8_readsForm 134 = .ok (.getfield 26, 3) := by decide +kernel
theorem dX8_readsForm_137 : decode cX8_readsForm 137 = .ok (.iconst 1, 1) := by decide +kernel
theorem dX8_readsForm_138 : decode cX8_readsForm 138 = .ok (.iaload, 1) := by decide +kernel
theorem dX8_readsForm_139 : decode cX8_readsForm 139 = .ok (.ineg, 1) := by decide +kernel
theorem dX8_readsForm_140 : decode cX8_readsForm 140 = .ok (.goto 9, 3) := by decide +kernel
theorem dX8_readsForm_143 : decode cX8_readsForm 143 = .ok (.aload_n 0, 1) := by decide +kernel
theorem dX8_readsForm_144 : decode cX8_readsForm 144 = .ok (.getfield 26, 3) := by decide +kernel
theorem dX8_readsForm_147 : decode cX8_readsForm 147 = .ok (.iconst 1, 1) := by decide +kernel
theorem dX8_readsForm_148 : decode cX8_readsForm 148 = .ok (.iaload, 1) := by decide +kernel
theorem dX8_readsForm_149 : decode cX8_readsForm 149 = .ok (.iastore, 1) := by decide +kernel
theorem dX8_readsForm_150 : decode cX8_readsForm 150 = .ok (.iload_n 2, 1) := by decide +kernel
theorem dX8_readsForm_151 : decode cX8_readsForm 151 = .ok (.ifCond .eq 16, 3) := by decide +kernel
theorem dX8_readsForm_154 : decode cX8_readsForm 154 = .ok (.aload_n 0, 1) := by decide +kernel
theorem dX8_readsForm_155 : decode cX8_readsForm 155 = .ok (.bipush 59, 2) := by decide +kernel
theorem dX8_readsForm_157 : decode cX8_readsForm 157 = .ok (.invokevirtual 213, 3) := by decide +kernel
theorem dX8_readsForm_160 : decode cX8_readsForm 160 = .ok (.ifCond .eq 7, 3) := by decide +kernel
theorem dX8_readsForm_163 : decode cX8_readsForm 163 = .ok (.iconst 1, 1) := by decide +kernel
theorem dX8_readsForm_164 : decode cX8_readsForm 164 = .ok (.goto 4, 3) := by decide +kernel
theorem dX8_readsForm_167 : decode cX8_readsForm 167 = .ok (.iconst 0, 1) := by decide +kernel
theorem dX8_readsForm_168 : decode cX8_readsForm 168 = .ok (.ireturn, 1) := by decide +kernel
theorem dX8_does_0 : decode cX8_does 0 = .ok (.iload_n 1, 1) := by decide +kernel
theorem dX8_does_1 : decode cX8_does 1 = .ok (.lookupswitch 107 #[(98, 71), (109, 89), (114, 60), (116, 43)], 43) := by decide +kernel
theorem dX8_does_44 : decode cX8_does 44 = .ok (.aload_n 0, 1) := by decide +kernel
theorem dX8_does_45 : decode cX8_does 45 = .ok (.aload_n 0, 1) := by decide +kernel
theorem dX8_does_46 : decode cX8_does 46 = .ok (.getfield 26, 3) := by decide +kernel
theorem dX8_does_49 : decode cX8_does 49 = .ok (.iconst 0, 1) := by decide +kernel
theorem dX8_does_50 : decode cX8_does 50 = .ok (.iaload, 1) := by decide +kernel
theorem dX8_does_51 : decode cX8_does 51 = .ok (.aload_n 0, 1) := by decide +kernel
theorem dX8_does_52 : decode cX8_does 52 = .ok (.getfield 26, 3) := by decide +kernel
theorem dX8_does_55 : decode cX8_does 55 = .ok (.iconst 1, 1) := by decide +kernel
theorem dX8_does_56 : decode cX8_does 56 = .ok (.iaload, 1) := by decide +kernel
theorem dX8_does_57 : decode cX8_does 57 = .ok (.invokevirtual 103, 3) := by decide +kernel
theorem dX8_does_60 : decode cX8_does 60 = .ok (.ireturn, 1) := by decide +kernel
theorem dX8_does_61 : decode cX8_does 61 = .ok (.aload_n 0, 1) := by decide +kernel
theorem dX8_does_62 : decode cX8_does 62 = .ok (.aload_n 0, 1) := by decide +kernel
theorem dX8_does_63 : decode cX8_does 63 = .ok (.getfield 26, 3) := by decide +kernel
theorem dX8_does_66 : decode cX8_does 66 = .ok (.iconst 0, 1) := by decide +kernel
theorem dX8_does_67 : decode cX8_does 67 = .ok (.iaload, 1) := by decide +kernel
theorem dX8_does_68 : decode cX8_does 68 = .ok (.invokevirtual 189, 3) := by decide +kernel
theorem dX8_does_71 : decode cX8_does 71 = .ok (.ireturn, 1) := by decide +kernel
theorem dX8_does_72 : decode cX8_does 72 = .ok (.aload_n 0, 1) := by decide +kernel
theorem dX8_does_73 : decode cX8_does 73 = .ok (.aload_n 0, 1) := by decide +kernel
theorem dX8_does_74 : decode cX8_does 74 = .ok (.getfield 26, 3) := by decide +kernel
theorem dX8_does_77 : decode cX8_does 77 = .ok (.iconst 0, 1) := by decide +kernel
theorem dX8_does_78 : decode cX8_does 78 = .ok (.iaload, 1) := by decide +kernel
theorem dX8_does_79 : decode cX8_does 79 = .ok (.aload_n 0, 1) := by decide +kernel
theorem dX8_does_80 : decode cX8_does 80 = .ok (.getfield 26, 3) := by decide +kernel
theorem dX8_does_83 : decode cX8_does 83 = .ok (.iconst 1, 1) := by decide +kernel
theorem dX8_does_84 : decode cX8_does 84 = .ok (.iaload, 1) := by decide +kernel
theorem dX8_does_85 : decode cX8_does 85 = .ok (.iconst 1, 1) := by decide +kernel
theorem dX8_does_86 : decode cX8_does 86 = .ok (.invokevirtual 114, 3) := by decide +kernel
theorem dX8_does_89 : decode cX8_does 89 = .ok (.ireturn, 1) := by decide +kernel
theorem dX8_does_90 : decode cX8_does 90 = .ok (.aload_n 0, 1) := by decide +kernel
theorem dX8_does_91 : decode cX8_does 91 = .ok (.aload_n 0, 1) := by decide +kernel
theorem dX8_does_92 : decode cX8_does 92 = .ok (.getfield 26, 3) := by decide +kernel
theorem dX8_does_95 : decode cX8_does 95 = .ok (.iconst 0, 1) := by decide +kernel
theorem dX8_does_96 : decode cX8_does 96 = .ok (.iaload, 1) := by decide +kernel
theorem dX8_does_97 : decode cX8_does 97 = .ok (.aload_n 0, 1) := by decide +kernel
theorem dX8_does_98 : decode cX8_does 98 = .ok (.getfield 26, 3) := by decide +kernel
theorem dX8_does_101 : decode cX8_does 101 = .ok (.iconst 1, 1) := by decide +kernel
theorem dX8_does_102 : decode cX8_does 102 = .ok (.iaload, 1) := by decide +kernel
theorem dX8_does_103 : decode cX8_does 103 = .ok (.iconst 0, 1) := by decide +kernel
theorem dX8_does_104 : decode cX8_does 104 = .ok (.invokevirtual 114, 3) := by decide +kernel
theorem dX8_does_107 : decode cX8_does 107 = .ok (.ireturn, 1) := by decide +kernel
theorem dX8_does_108 : decode cX8_does 108 = .ok (.aload_n 0, 1) := by decide +kernel
theorem dX8_does_109 : decode cX8_does 109 = .ok (.invokevirtual 192, 3) := by decide +kernel
theorem dX8_does_112 : decode cX8_does 112 = .ok (.ireturn, 1) := by decide +kernel
theorem dX8_doesNext_0 : decode cX8_doesNext 0 = .ok (.aload_n 0, 1) := by decide +kernel
theorem dX8_doesNext_1 : decode cX8_doesNext 1 = .ok (.getfield 22, 3) := by decide +kernel
theorem dX8_doesNext_4 : decode cX8_doesNext 4 = .ok (.aload_n 0, 1) := by decide +kernel
theorem dX8_doesNext_5 : decode cX8_doesNext 5 = .ok (.getfield 207, 3) := by decide +kernel
theorem dX8_doesNext_8 : decode cX8_doesNext 8 = .ok (.caload, 1) := by decide +kernel
theorem dX8_doesNext_9 : decode cX8_doesNext 9 = .ok (.istore_n 1, 1) := by decide +kernel
theorem dX8_doesNext_10 : decode cX8_doesNext 10 = .ok (.aload_n 0, 1) := by decide +kernel
theorem dX8_doesNext_11 : decode cX8_doesNext 11 = .ok (.dup, 1) := by decide +kernel
theorem dX8_doesNext_12 : decode cX8_doesNext 12 = .ok (.getfield 207, 3) := by decide +kernel
theorem dX8_doesNext_15 : decode cX8_doesNext 15 = .ok (.iconst 1, 1) := by decide +kernel
theorem dX8_doesNext_16 : decode cX8_doesNext 16 = .ok (.iadd, 1) := by decide +kernel
theorem dX8_doesNext_17 : decode cX8_doesNext 17 = .ok (.putfield 207, 3) := by decide +kernel
theorem dX8_doesNext_20 : decode cX8_doesNext 20 = .ok (.aload_n 0, 1) := by decide +kernel
theorem dX8_doesNext_21 : decode cX8_doesNext 21 = .ok (.iload_n 1, 1) := by decide +kernel
theorem dX8_doesNext_22 : decode cX8_doesNext 22 = .ok (.invokevirtual 217, 3) := by decide +kernel
theorem dX8_doesNext_25 : decode cX8_doesNext 25 = .ok (.ifCond .ne 5, 3) := by decide +kernel
theorem dX8_doesNext_28 : decode cX8_doesNext 28 = .ok (.iconst 1, 1) := by decide +kernel
theorem dX8_doesNext_29 : decode cX8_doesNext 29 = .ok (.ireturn, 1) := by decide +kernel
theorem dX8_doesNext_30 : decode cX8_doesNext 30 = .ok (.iload_n 1, 1) := by decide +kernel
theorem dX8_doesNext_31 : decode cX8_doesNext 31 = .ok (.bipush 115, 2) := by decide +kernel
theorem dX8_doesNext_33 : decode cX8_doesNext 33 = .ok (.if_icmp .eq 50, 3) := by decide +kernel
theorem dX8_doesNext_36 : decode cX8_doesNext 36 = .ok (.iload_n 1, 1) := by decide +kernel
theorem dX8_doesNext_37 : decode cX8_doesNext 37 = .ok (.bipush 98, 2) := by decide +kernel
theorem dX8_doesNext_39 : decode cX8_doesNext 39 = .ok (.if_icmp .eq 9, 3) := by decide +kernel
theorem dX8_doesNext_42 : decode cX8_doesNext 42 = .ok (.iload_n 1, 1) := by decide +kernel
theorem dX8_doesNext_43 : decode cX8_doesNext 43 = .ok (.bipush 109, 2) := by decide +kernel
theorem dX8_doesNext_45 : decode cX8_doesNext 45 = .ok (.if_icmp .ne 25, 3) := by decide +kernel
theorem dX8_doesNext_48 : decode cX8_doesNext 48 = .ok (.aload_n 0, 1) := by decide +kernel
theorem dX8_doesNext_49 : decode cX8_doesNext 49 = .ok (.aload_n 0, 1) := by decide +kernel
theorem dX8_doesNext_50 : decode cX8_doesNext 50 = .ok (.getfield 26, 3) := by decide +kernel
theorem dX8_doesNext_53 : decode cX8_doesNext 53 = .ok (.iconst 0, 1) := by decide +kernel
theorem dX8_doesNext_54 : decode cX8_doesNext 54 = .ok (.iaload, 1) := by decide +kernel
theorem dX8_doesNext_55 : decode cX8_doesNext 55 = .ok (.aload_n 0, 1) := by decide +kernel
theorem dX8_doesNext_56 : decode cX8_doesNext 56 = .ok (.getfield 26, 3) := by decide +kernel
theorem dX8_doesNext_59 : decode cX8_doesNext 59 = .ok (.iconst 1, 1) := by decide +kernel
theorem dX8_doesNext_60 : decode cX8_doesNext 60 = .ok (.iaload, 1) := by decide +kernel
theorem dX8_doesNext_61 : decode cX8_doesNext 61 = .ok (.invokevirtual 106, 3) := by decide +kernel
theorem dX8_doesNext_64 : decode cX8_doesNext 64 = .ok (.ifCond .eq 23, 3) := by decide +kernel
theorem dX8_doesNext_67 : decode cX8_doesNext 67 = .ok (.goto 16, 3) := by decide +kernel
theorem dX8_doesNext_70 : decode cX8_doesNext 70 = .ok (.aload_n 0, 1) := by decide +kernel
theorem dX8_doesNext_71 : decode cX8_doesNext 71 = .ok (.aload_n 0, 1) := by decide +kernel
theorem dX8_doesNext_72 : decode cX8_doesNext 72 = .ok (.getfield 26, 3) := by decide +kernel
theorem dX8_doesNext_75 : decode cX8_doesNext 75 = .ok (.iconst 0, 1) := by decide +kernel
theorem dX8_doesNext_76 : decode cX8_doesNext 76 = .ok (.iaload, 1) := by decide +kernel
theorem dX8_doesNext_77 : decode cX8_doesNext 77 = .ok (.invokevirtual 39, 3) := by decide +kernel
theorem dX8_doesNext_80 : decode cX8_doesNext 80 = .ok (.ifCond .eq 7, 3) := by decide +kernel
theorem dX8_doesNext_83 : decode cX8_doesNext 83 = .ok (.iconst 1, 1) := by decide +kernel
theorem dX8_doesNext_84 : decode cX8_doesNext 84 = .ok (.goto 4, 3) := by decide +kernel
theorem dX8_doesNext_87 : decode cX8_doesNext 87 = .ok (.iconst 0, 1) := by decide +kernel
theorem dX8_doesNext_88 : decode cX8_doesNext 88 = .ok (.istore_n 2, 1) := by decide +kernel
theorem dX8_doesNext_89 : decode cX8_doesNext 89 = .ok (.iload_n 2, 1) := by decide +kernel
theorem dX8_doesNext_90 : decode cX8_doesNext 90 = .ok (.ifCond .ne 7, 3) := by decide +kernel
theorem dX8_doesNext_93 : decode cX8_doesNext 93 = .ok (.iconst 2, 1) := by decide +kernel
theorem dX8_doesNext_94 : decode cX8_doesNext 94 = .ok (.goto 18, 3) := by decide +kernel
theorem dX8_doesNext_97 : decode cX8_doesNext 97 = .ok (.aload_n 0, 1) := by decide +kernel
theorem dX8_doesNext_98 : decode cX8_doesNext 98 = .ok (.iload_n 1, 1) := by decide +kernel
theorem dX8_doesNext_99 : decode cX8_doesNext 99 = .ok (.invokevirtual 220, 3) := by decide +kernel
theorem dX8_doesNext_102 : decode cX8_doesNext 102 = .ok (.ldc 47, 2) := by decide +kernel
theorem dX8_doesNext_104 : decode cX8_doesNext 104 = .ok (.if_icmp .gt 7, 3) := by decide +kernel
theorem dX8_doesNext_107 : decode cX8_doesNext 107 = .ok (.iconst 3, 1) := by decide +kernel
theorem dX8_doesNext_108 : decode cX8_doesNext 108 = .ok (.goto 4, 3) := by decide +kernel
theorem dX8_doesNext_111 : decode cX8_doesNext 111 = .ok (.iconst 0, 1) := by decide +kernel
theorem dX8_doesNext_112 : decode cX8_doesNext 112 = .ok (.ireturn, 1) := by decide +kernel
theorem dX8_faulty_0 : decode cX8_faulty 0 = .ok (.iconst 0, 1) := by decide +kernel
theorem dX8_faulty_1 : decode cX8_faulty 1 = .ok (.istore_n 1, 1) := by decide +kernel
theorem dX8_faulty_2 : decode cX8_faulty 2 = .ok (.iload_n 1, 1) := by decide +kernel
theorem dX8_faulty_3 : decode cX8_faulty 3 = .ok (.sipush 259, 3) := by decide +kernel
theorem dX8_faulty_6 : decode cX8_faulty 6 = .ok (.if_icmp .ge 21, 3) := by decide +kernel
theorem dX8_faulty_9 : decode cX8_faulty 9 = .ok (.aload_n 0, 1) := by decide +kernel
theorem dX8_faulty_10 : decode cX8_faulty 10 = .ok (.getfield 16, 3) := by decide +kernel
theorem dX8_faulty_13 : decode cX8_faulty 13 = .ok (.iload_n 1, 1) := by decide +kernel
theorem dX8_faulty_14 : decode cX8_faulty 14 = .ok (.aload_n 0, 1) := by decide +kernel
theorem dX8_faulty_15 : decode cX8_faulty 15 = .ok (.getfield 7, 3) := by decide +kernel
theorem dX8_faulty_18 : decode cX8_faulty 18 = .ok (.iload_n 1, 1) := by decide +kernel
theorem dX8_faulty_19 : decode cX8_faulty 19 = .ok (.iaload, 1) := by decide +kernel
theorem dX8_faulty_20 : decode cX8_faulty 20 = .ok (.iastore, 1) := by decide +kernel
theorem dX8_faulty_21 : decode cX8_faulty 21 = .ok (.iinc 1 1, 3) := by decide +kernel
theorem dX8_faulty_24 : decode cX8_faulty 24 = .ok (.goto (-22), 3) := by decide +kernel
theorem dX8_faulty_27 : decode cX8_faulty 27 = .ok (.ldc 68, 2) := by decide +kernel
theorem dX8_faulty_29 : decode cX8_faulty 29 = .ok (.istore_n 1, 1) := by decide +kernel
theorem dX8_faulty_30 : decode cX8_faulty 30 = .ok (.aload_n 0, 1) := by decide +kernel
theorem dX8_faulty_31 : decode cX8_faulty 31 = .ok (.iconst 0, 1) := by decide +kernel
theorem dX8_faulty_32 : decode cX8_faulty 32 = .ok (.putfield 207, 3) := by decide +kernel
theorem dX8_faulty_35 : decode cX8_faulty 35 = .ok (.aload_n 0, 1) := by decide +kernel
theorem dX8_faulty_36 : decode cX8_faulty 36 = .ok (.getfield 207, 3) := by decide +kernel
theorem dX8_faulty_39 : decode cX8_faulty 39 = .ok (.aload_n 0, 1) := by decide +kernel
theorem dX8_faulty_40 : decode cX8_faulty 40 = .ok (.getfield 204, 3) := by decide +kernel
theorem dX8_faulty_43 : decode cX8_faulty 43 = .ok (.if_icmp .ge 38, 3) := by decide +kernel
theorem dX8_faulty_46 : decode cX8_faulty 46 = .ok (.iload_n 1, 1) := by decide +kernel
theorem dX8_faulty_47 : decode cX8_faulty 47 = .ok (.ldc 68, 2) := by decide +kernel
theorem dX8_faulty_49 : decode cX8_faulty 49 = .ok (.if_icmp .ne 32, 3) := by decide +kernel
theorem dX8_faulty_52 : decode cX8_faulty 52 = .ok (.aload_n 0, 1) := by decide +kernel
theorem dX8_faulty_53 : decode cX8_faulty 53 = .ok (.getfield 207, 3) := by decide +kernel
theorem dX8_faulty_56 : decode cX8_faulty 56 = .ok (.istore_n 2, 1) := by decide +kernel
theorem dX8_faulty_57 : decode cX8_faulty 57 = .ok (.aload_n 0, 1) := by decide +kernel
theorem dX8_faulty_58 : decode cX8_faulty 58 = .ok (.aload_n 0, 1) := by decide +kernel
theorem dX8_faulty_59 : decode cX8_faulty 59 = .ok (.invokevirtual 224, 3) := by decide +kernel
theorem dX8_faulty_62 : decode cX8_faulty 62 = .ok (.putfield 227, 3) := by decide +kernel
theorem dX8_faulty_65 : decode cX8_faulty 65 = .ok (.aload_n 0, 1) := by decide +kernel
theorem dX8_faulty_66 : decode cX8_faulty 66 = .ok (.getfield 227, 3) := by decide +kernel
theorem dX8_faulty_69 : decode cX8_faulty 69 = .ok (.ifCond .le 7, 3) := by decide +kernel
theorem dX8_faulty_72 : decode cX8_faulty 72 = .ok (.iload_n 2, 1) := by decide +kernel
theorem dX8_faulty_73 : decode cX8_faulty 73 = .ok (.goto 4, 3) := by decide +kernel
theorem dX8_faulty_76 : decode cX8_faulty 76 = .ok (.iload_n 1, 1) := by decide +kernel
theorem dX8_faulty_77 : decode cX8_faulty 77 = .ok (.istore_n 1, 1) := by decide +kernel
theorem dX8_faulty_78 : decode cX8_faulty 78 = .ok (.goto (-43), 3) := by decide +kernel
theorem dX8_faulty_81 : decode cX8_faulty 81 = .ok (.iconst 0, 1) := by decide +kernel
theorem dX8_faulty_82 : decode cX8_faulty 82 = .ok (.istore_n 2, 1) := by decide +kernel
theorem dX8_faulty_83 : decode cX8_faulty 83 = .ok (.iload_n 2, 1) := by decide +kernel
theorem dX8_faulty_84 : decode cX8_faulty 84 = .ok (.sipush 259, 3) := by decide +kernel
theorem dX8_faulty_87 : decode cX8_faulty 87 = .ok (.if_icmp .ge 21, 3) := by decide +kernel
theorem dX8_faulty_90 : decode cX8_faulty 90 = .ok (.aload_n 0, 1) := by decide +kernel
theorem dX8_faulty_91 : decode cX8_faulty 91 = .ok (.getfield 7, 3) := by decide +kernel
theorem dX8_faulty_94 : decode cX8_faulty 94 = .ok (.iload_n 2, 1) := by decide +kernel
theorem dX8_faulty_95 : decode cX8_faulty 95 = .ok (.aload_n 0, 1) := by decide +kernel
theorem dX8_faulty_96 : decode cX8_faulty 96 = .ok (.getfield 16, 3) := by decide +kernel
theorem dX8_faulty_99 : decode cX8_faulty 99 = .ok (.iload_n 2, 1) := by decide +kernel
theorem dX8_faulty_100 : decode cX8_faulty 100 = .ok (.iaload, 1) := by decide +kernel
theorem dX8_faulty_101 : decode cX8_faulty 101 = .ok (.iastore, 1) := by decide +kernel
theorem dX8_faulty_102 : decode cX8_faulty 102 = .ok (.iinc 2 1, 3) := by decide +kernel
theorem dX8_faulty_105 : decode cX8_faulty 105 = .ok (.goto (-22), 3) := by decide +kernel
theorem dX8_faulty_108 : decode cX8_faulty 108 = .ok (.iload_n 1, 1) := by decide +kernel
theorem dX8_faulty_109 : decode cX8_faulty 109 = .ok (.ireturn, 1) := by decide +kernel
theorem dX8_fault_0 : decode cX8_fault 0 = .ok (.iload_n 1, 1) := by decide +kernel
theorem dX8_fault_1 : decode cX8_fault 1 = .ok (.iconst 0, 1) := by decide +kernel
theorem dX8_fault_2 : decode cX8_fault 2 = .ok (.iconst 1, 1) := by decide +kernel
theorem dX8_fault_3 : decode cX8_fault 3 = .ok (.invokestatic 35, 3) := by decide +kernel
theorem dX8_fault_6 : decode cX8_fault 6 = .ok (.ifCond .ne 6, 3) := by decide +kernel
theorem dX8_fault_9 : decode cX8_fault 9 = .ok (.ldc 47, 2) := by decide +kernel
theorem dX8_fault_11 : decode cX8_fault 11 = .ok (.ireturn, 1) := by decide +kernel
theorem dX8_fault_12 : decode cX8_fault 12 = .ok (.aload_n 0, 1) := by decide +kernel
theorem dX8_fault_13 : decode cX8_fault 13 = .ok (.invokevirtual 230, 3) := by decide +kernel
theorem dX8_fault_16 : decode cX8_fault 16 = .ok (.istore_n 2, 1) := by decide +kernel
theorem dX8_fault_17 : decode cX8_fault 17 = .ok (.iload_n 2, 1) := by decide +kernel
theorem dX8_fault_18 : decode cX8_fault 18 = .ok (.ldc 68, 2) := by decide +kernel
theorem dX8_fault_20 : decode cX8_fault 20 = .ok (.if_icmp .eq 7, 3) := by decide +kernel
theorem dX8_fault_23 : decode cX8_fault 23 = .ok (.iload_n 1, 1) := by decide +kernel
theorem dX8_fault_24 : decode cX8_fault 24 = .ok (.ifCond .ne 7, 3) := by decide +kernel
theorem dX8_fault_27 : decode cX8_fault 27 = .ok (.iload_n 2, 1) := by decide +kernel
theorem dX8_fault_28 : decode cX8_fault 28 = .ok (.goto 7, 3) := by decide +kernel
theorem dX8_fault_31 : decode cX8_fault 31 = .ok (.aload_n 0, 1) := by decide +kernel
theorem dX8_fault_32 : decode cX8_fault 32 = .ok (.getfield 227, 3) := by decide +kernel
theorem dX8_fault_35 : decode cX8_fault 35 = .ok (.ireturn, 1) := by decide +kernel
theorem dX8_play_0 : decode cX8_play 0 = .ok (.aload_n 0, 1) := by decide +kernel
theorem dX8_play_1 : decode cX8_play 1 = .ok (.invokevirtual 230, 3) := by decide +kernel
theorem dX8_play_4 : decode cX8_play 4 = .ok (.ldc 68, 2) := by decide +kernel
theorem dX8_play_6 : decode cX8_play 6 = .ok (.if_icmp .eq 6, 3) := by decide +kernel
theorem dX8_play_9 : decode cX8_play 9 = .ok (.ldc 86, 2) := by decide +kernel
theorem dX8_play_11 : decode cX8_play 11 = .ok (.ireturn, 1) := by decide +kernel
theorem dX8_play_12 : decode cX8_play 12 = .ok (.aload_n 0, 1) := by decide +kernel
theorem dX8_play_13 : decode cX8_play 13 = .ok (.invokevirtual 73, 3) := by decide +kernel
theorem dX8_play_16 : decode cX8_play 16 = .ok (.iconst 0, 1) := by decide +kernel
theorem dX8_play_17 : decode cX8_play 17 = .ok (.istore_n 1, 1) := by decide +kernel
theorem dX8_play_18 : decode cX8_play 18 = .ok (.aload_n 0, 1) := by decide +kernel
theorem dX8_play_19 : decode cX8_play 19 = .ok (.iconst 0, 1) := by decide +kernel
theorem dX8_play_20 : decode cX8_play 20 = .ok (.putfield 207, 3) := by decide +kernel
theorem dX8_play_23 : decode cX8_play 23 = .ok (.aload_n 0, 1) := by decide +kernel
theorem dX8_play_24 : decode cX8_play 24 = .ok (.getfield 207, 3) := by decide +kernel
theorem dX8_play_27 : decode cX8_play 27 = .ok (.aload_n 0, 1) := by decide +kernel
theorem dX8_play_28 : decode cX8_play 28 = .ok (.getfield 204, 3) := by decide +kernel
theorem dX8_play_31 : decode cX8_play 31 = .ok (.if_icmp .ge 21, 3) := by decide +kernel
theorem dX8_play_34 : decode cX8_play 34 = .ok (.iload_n 1, 1) := by decide +kernel
theorem dX8_play_35 : decode cX8_play 35 = .ok (.aload_n 0, 1) := by decide +kernel
theorem dX8_play_36 : decode cX8_play 36 = .ok (.invokevirtual 224, 3) := by decide +kernel
theorem dX8_play_39 : decode cX8_play 39 = .ok (.ifCond .ne 7, 3) := by decide +kernel
theorem dX8_play_42 : decode cX8_play 42 = .ok (.iconst 1, 1) := by decide +kernel
theorem dX8_play_43 : decode cX8_play 43 = .ok (.goto 4, 3) := by decide +kernel
theorem dX8_play_46 : decode cX8_play 46 = .ok (.iconst 0, 1) := by decide +kernel
theorem dX8_play_47 : decode cX8_play 47 = .ok (.iadd, 1) := by decide +kernel
theorem dX8_play_48 : decode cX8_play 48 = .ok (.istore_n 1, 1) := by decide +kernel
theorem dX8_play_49 : decode cX8_play 49 = .ok (.goto (-26), 3) := by decide +kernel
theorem dX8_play_52 : decode cX8_play 52 = .ok (.aload_n 0, 1) := by decide +kernel
theorem dX8_play_53 : decode cX8_play 53 = .ok (.iload_n 1, 1) := by decide +kernel
theorem dX8_play_54 : decode cX8_play 54 = .ok (.invokevirtual 76, 3) := by decide +kernel
theorem dX8_play_57 : decode cX8_play 57 = .ok (.ireturn, 1) := by decide +kernel
theorem dL_law_0 : decode cL_law 0 = .ok (.new 7, 3) := by decide +kernel
theorem dL_law_3 : decode cL_law 3 = .ok (.dup, 1) := by decide +kernel
theorem dL_law_4 : decode cL_law 4 = .ok (.invokespecial 9, 3) := by decide +kernel
theorem dL_law_7 : decode cL_law 7 = .ok (.astore_n 1, 1) := by decide +kernel
theorem dL_law_8 : decode cL_law 8 = .ok (.new 10, 3) := by decide +kernel
theorem dL_law_11 : decode cL_law 11 = .ok (.dup, 1) := by decide +kernel
theorem dL_law_12 : decode cL_law 12 = .ok (.invokespecial 12, 3) := by decide +kernel
theorem dL_law_15 : decode cL_law 15 = .ok (.astore_n 2, 1) := by decide +kernel
theorem dL_law_16 : decode cL_law 16 = .ok (.iconst 0, 1) := by decide +kernel
theorem dL_law_17 : decode cL_law 17 = .ok (.istore_n 3, 1) := by decide +kernel
theorem dL_law_18 : decode cL_law 18 = .ok (.iload_n 3, 1) := by decide +kernel
theorem dL_law_19 : decode cL_law 19 = .ok (.aload_n 0, 1) := by decide +kernel
theorem dL_law_20 : decode cL_law 20 = .ok (.arraylength, 1) := by decide +kernel
theorem dL_law_21 : decode cL_law 21 = .ok (.iconst 5, 1) := by decide +kernel
theorem dL_law_22 : decode cL_law 22 = .ok (.isub, 1) := by decide +kernel
theorem dL_law_23 : decode cL_law 23 = .ok (.if_icmp .gt 1145, 3) := by decide +kernel
theorem dL_law_26 : decode cL_law 26 = .ok (.aload_n 0, 1) := by decide +kernel
theorem dL_law_27 : decode cL_law 27 = .ok (.iload_n 3, 1) := by decide +kernel
theorem dL_law_28 : decode cL_law 28 = .ok (.iaload, 1) := by decide +kernel
theorem dL_law_29 : decode cL_law 29 = .ok (.bipush 31, 2) := by decide +kernel
theorem dL_law_31 : decode cL_law 31 = .ok (.iand, 1) := by decide +kernel
theorem dL_law_32 : decode cL_law 32 = .ok (.tableswitch 1130 0 31 #[144, 157, 200, 243, 276, 309, 352, 395, 418, 451, 484, 527, 570, 613, 646, 679, 732, 765, 798, 851, 884, 907, 930, 943, 976, 999, 1022, 1045, 1058, 1081, 1094, 1117], 144) := by decide +kernel
theorem dL_law_176 : decode cL_law 176 = .ok (.aload_n 1, 1) := by decide +kernel
theorem dL_law_177 : decode cL_law 177 = .ok (.invokevirtual 13, 3) := by decide +kernel
theorem dL_law_180 : decode cL_law 180 = .ok (.aload_n 2, 1) := by decide +kernel
theorem dL_law_181 : decode cL_law 181 = .ok (.invokevirtual 17, 3) := by decide +kernel
theorem dL_law_184 : decode cL_law 184 = .ok (.if_icmp .eq 978, 3) := by decide +kernel
theorem dL_law_187 : decode cL_law 187 = .ok (.iconst 0, 1) := by decide +kernel
theorem dL_law_188 : decode cL_law 188 = .ok (.ireturn, 1) := by decide +kernel
theorem dL_law_189 : decode cL_law 189 = .ok (.aload_n 1, 1) := by decide +kernel
theorem dL_law_190 : decode cL_law 190 = .ok (.aload_n 0, 1) := by decide +kernel
theorem dL_law_191 : decode cL_law 191 = .ok (.iload_n 3, 1) := by decide +kernel
theorem dL_law_192 : decode cL_law 192 = .ok (.iconst 1, 1) := by decide +kernel
theorem dL_law_193 : decode cL_law 193 = .ok (.iadd, 1) := by decide +kernel
theorem dL_law_194 : decode cL_law 194 = .ok (.iaload, 1) := by decide +kernel
theorem dL_law_195 : decode cL_law 195 = .ok (.aload_n 0, 1) := by decide +kernel
theorem dL_law_196 : decode cL_law 196 = .ok (.iload_n 3, 1) := by decide +kernel
theorem dL_law_197 : decode cL_law 197 = .ok (.iconst 2, 1) := by decide +kernel
theorem dL_law_198 : decode cL_law 198 = .ok (.iadd, 1) := by decide +kernel
theorem dL_law_199 : decode cL_law 199 = .ok (.iaload, 1) := by decide +kernel
theorem dL_law_200 : decode cL_law 200 = .ok (.aload_n 0, 1) := by decide +kernel
theorem dL_law_201 : decode cL_law 201 = .ok (.iload_n 3, 1) := by decide +kernel
theorem dL_law_202 : decode cL_law 202 = .ok (.iconst 3, 1) := by decide +kernel
theorem dL_law_203 : decode cL_law 203 = .ok (.iadd, 1) := by decide +kernel
theorem dL_law_204 : decode cL_law 204 = .ok (.iaload, 1) := by decide +kernel
theorem dL_law_205 : decode cL_law 205 = .ok (.invokevirtual 18, 3) := by decide +kernel
theorem dL_law_208 : decode cL_law 208 = .ok (.aload_n 2, 1) := by decide +kernel
theorem dL_law_209 : decode cL_law 209 = .ok (.aload_n 0, 1) := by decide +kernel
theorem dL_law_210 : decode cL_law 210 = .ok (.iload_n 3, 1) := by decide +kernel
theorem dL_law_211 : decode cL_law 211 = .ok (.iconst 1, 1) := by decide +kernel
theorem dL_law_212 : decode cL_law 212 = .ok (.iadd, 1) := by decide +kernel
theorem dL_law_213 : decode cL_law 213 = .ok (.iaload, 1) := by decide +kernel
theorem dL_law_214 : decode cL_law 214 = .ok (.aload_n 0, 1) := by decide +kernel
theorem dL_law_215 : decode cL_law 215 = .ok (.iload_n 3, 1) := by decide +kernel
theorem dL_law_216 : decode cL_law 216 = .ok (.iconst 2, 1) := by decide +kernel
theorem dL_law_217 : decode cL_law 217 = .ok (.iadd, 1) := by decide +kernel
theorem dL_law_218 : decode cL_law 218 = .ok (.iaload, 1) := by decide +kernel
theorem dL_law_219 : decode cL_law 219 = .ok (.aload_n 0, 1) := by decide +kernel
theorem dL_law_220 : decode cL_law 220 = .ok (.iload_n 3, 1) := by decide +kernel
theorem dL_law_221 : decode cL_law 221 = .ok (.iconst 3, 1) := by decide +kernel
theorem dL_law_222 : decode cL_law 222 = .ok (.iadd, 1) := by decide +kernel
theorem dL_law_223 : decode cL_law 223 = .ok (.iaload, 1) := by decide +kernel
theorem dL_law_224 : decode cL_law 224 = .ok (.invokevirtual 22, 3) := by decide +kernel
theorem dL_law_227 : decode cL_law 227 = .ok (.if_icmp .eq 935, 3) := by decide +kernel
theorem dL_law_230 : decode cL_law 230 = .ok (.iconst 0, 1) := by decide +kernel
theorem dL_law_231 : decode cL_law 231 = .ok (.ireturn, 1) := by decide +kernel
theorem dL_law_232 : decode cL_law 232 = .ok (.aload_n 1, 1) := by decide +kernel
theorem dL_law_233 : decode cL_law 233 = .ok (.aload_n 0, 1) := by decide +kernel
theorem dL_law_234 : decode cL_law 234 = .ok (.iload_n 3, 1) := by decide +kernel
theorem dL_law_235 : decode cL_law 235 = .ok (.iconst 1, 1) := by decide +kernel
theorem dL_law_236 : decode cL_law 236 = .ok (.iadd, 1) := by decide +kernel
theorem dL_law_237 : decode cL_law 237 = .ok (.iaload, 1) := by decide +kernel
theorem dL_law_238 : decode cL_law 238 = .ok (.aload_n 0, 1) := by decide +kernel
theorem dL_law_239 : decode cL_law 239 = .ok (.iload_n 3, 1) := by decide +kernel
theorem dL_law_240 : decode cL_law 240 = .ok (.iconst 2, 1) := by decide +kernel
theorem dL_law_241 : decode cL_law 241 = .ok (.iadd, 1) := by decide +kernel
theorem dL_law_242 : decode cL_law 242 = .ok (.iaload, 1) := by decide +kernel
theorem dL_law_243 : decode cL_law 243 = .ok (.aload_n 0, 1) := by decide +kernel
theorem dL_law_244 : decode cL_law 244 = .ok (.iload_n 3, 1) := by decide +kernel
theorem dL_law_245 : decode cL_law 245 = .ok (.iconst 3, 1) := by decide +kernel
theorem dL_law_246 : decode cL_law 246 = .ok (.iadd, 1) := by decide +kernel
theorem dL_law_247 : decode cL_law 247 = .ok (.iaload, 1) := by decide +kernel
theorem dL_law_248 : decode cL_law 248 = .ok (.invokevirtual 23, 3) := by decide +kernel
theorem dL_law_251 : decode cL_law 251 = .ok (.aload_n 2, 1) := by decide +kernel
theorem dL_law_252 : decode cL_law 252 = .ok (.aload_n 0, 1) := by decide +kernel
theorem dL_law_253 : decode cL_law 253 = .ok (.iload_n 3, 1) := by decide +kernel
theorem dL_law_254 : decode cL_law 254 = .ok (.iconst 1, 1) := by decide +kernel
theorem dL_law_255 : decode cL_law 255 = .ok (.iadd, 1) := by decide +kernel
theorem dL_law_256 : decode cL_law 256 = .ok (.iaload, 1) := by decide +kernel
theorem dL_law_257 : decode cL_law 257 = .ok (.aload_n 0, 1) := by decide +kernel
theorem dL_law_258 : decode cL_law 258 = .ok (.iload_n 3, 1) := by decide +kernel
theorem dL_law_259 : decode cL_law 259 = .ok (.iconst 2, 1) := by decide +kernel
theorem dL_law_260 : decode cL_law 260 = .ok (.iadd, 1) := by decide +kernel
theorem dL_law_261 : decode cL_law 261 = .ok (.iaload, 1) := by decide +kernel
theorem dL_law_262 : decode cL_law 262 = .ok (.aload_n 0, 1) := by decide +kernel
theorem dL_law_263 : decode cL_law 263 = .ok (.iload_n 3, 1) := by decide +kernel
theorem dL_law_264 : decode cL_law 264 = .ok (.iconst 3, 1) := by decide +kernel
theorem dL_law_265 : decode cL_law 265 = .ok (.iadd, 1) := by decide +kernel
theorem dL_law_266 : decode cL_law 266 = .ok (.iaload, 1) := by decide +kernel
theorem dL_law_267 : decode cL_law 267 = .ok (.invokevirtual 26, 3) := by decide +kernel
theorem dL_law_270 : decode cL_law 270 = .ok (.if_icmp .eq 892, 3) := by decide +kernel
theorem dL_law_273 : decode cL_law 273 = .ok (.iconst 0, 1) := by decide +kernel
theorem dL_law_274 : decode cL_law 274 = .ok (.ireturn, 1) := by decide +kernel
theorem dL_law_275 : decode cL_law 275 = .ok (.aload_n 1, 1) := by decide +kernel
theorem dL_law_276 : decode cL_law 276 = .ok (.aload_n 0, 1) := by decide +kernel
theorem dL_law_277 : decode cL_law 277 = .ok (.iload_n 3, 1) := by decide +kernel
theorem dL_law_278 : decode cL_law 278 = .ok (.iconst 1, 1) := by decide +kernel
theorem dL_law_279 : decode cL_law 279 = .ok (.iadd, 1) := by decide +kernel
theorem dL_law_280 : decode cL_law 280 = .ok (.iaload, 1) := by decide +kernel
theorem dL_law_281 : decode cL_law 281 = .ok (.aload_n 0, 1) := by decide +kernel
theorem dL_law_282 : decode cL_law 282 = .ok (.iload_n 3, 1) := by decide +kernel
theorem dL_law_283 : decode cL_law 283 = .ok (.iconst 2, 1) := by decide +kernel
theorem dL_law_284 : decode cL_law 284 = .ok (.iadd, 1) := by decide +kernel
theorem dL_law_285 : decode cL_law 285 = .ok (.iaload, 1) := by decide +kernel
theorem dL_law_286 : decode cL_law 286 = .ok (.invokevirtual 27, 3) := by decide +kernel
theorem dL_law_289 : decode cL_law 289 = .ok (.aload_n 2, 1) := by decide +kernel
theorem dL_law_290 : decode cL_law 290 = .ok (.aload_n 0, 1) := by decide +kernel
theorem dL_law_291 : decode cL_law 291 = .ok (.iload_n 3, 1) := by decide +kernel
theorem dL_law_292 : decode cL_law 292 = .ok (.iconst 1, 1) := by decide +kernel
theorem dL_law_293 : decode cL_law 293 = .ok (.iadd, 1) := by decide +kernel
theorem dL_law_294 : decode cL_law 294 = .ok (.iaload, 1) := by decide +kernel
theorem dL_law_295 : decode cL_law 295 = .ok (.aload_n 0, 1) := by decide +kernel
theorem dL_law_296 : decode cL_law 296 = .ok (.iload_n 3, 1) := by decide +kernel
theorem dL_law_297 : decode cL_law 297 = .ok (.iconst 2, 1) := by decide +kernel
theorem dL_law_298 : decode cL_law 298 = .ok (.iadd, 1) := by decide +kernel
theorem dL_law_299 : decode cL_law 299 = .ok (.iaload, 1) := by decide +kernel
theorem dL_law_300 : decode cL_law 300 = .ok (.invokevirtual 31, 3) := by decide +kernel
theorem dL_law_303 : decode cL_law 303 = .ok (.if_icmp .eq 859, 3) := by decide +kernel
theorem dL_law_306 : decode cL_law 306 = .ok (.iconst 0, 1) := by decide +kernel
theorem dL_law_307 : decode cL_law 307 = .ok (.ireturn, 1) := by decide +kernel
theorem dL_law_308 : decode cL_law 308 = .ok (.aload_n 1, 1) := by decide +kernel
theorem dL_law_309 : decode cL_law 309 = .ok (.aload_n 0, 1) := by decide +kernel
theorem dL_law_310 : decode cL_law 310 = .ok (.iload_n 3, 1) := by decide +kernel
theorem dL_law_311 : decode cL_law 311 = .ok (.iconst 1, 1) := by decide +kernel
theorem dL_law_312 : decode cL_law 312 = .ok (.iadd, 1) := by decide +kernel
theorem dL_law_313 : decode cL_law 313 = .ok (.iaload, 1) := by decide +kernel
theorem dL_law_314 : decode cL_law 314 = .ok (.aload_n 0, 1) := by decide +kernel
theorem dL_law_315 : decode cL_law 315 = .ok (.iload_n 3, 1) := by decide +kernel
theorem dL_law_316 : decode cL_law 316 = .ok (.iconst 2, 1) := by decide +kernel
theorem dL_law_317 : decode cL_law 317 = .ok (.iadd, 1) := by decide +kernel
theorem dL_law_318 : decode cL_law 318 = .ok (.iaload, 1) := by decide +kernel
theorem dL_law_319 : decode cL_law 319 = .ok (.invokevirtual 32, 3) := by decide +kernel
theorem dL_law_322 : decode cL_law 322 = .ok (.aload_n 2, 1) := by decide +kernel
theorem dL_law_323 : decode cL_law 323 = .ok (.aload_n 0, 1) := by decide +kernel
theorem dL_law_324 : decode cL_law 324 = .ok (.iload_n 3, 1) := by decide +kernel
theorem dL_law_325 : decode cL_law 325 = .ok (.iconst 1, 1) := by decide +kernel
theorem dL_law_326 : decode cL_law 326 = .ok (.iadd, 1) := by decide +kernel
theorem dL_law_327 : decode cL_law 327 = .ok (.iaload, 1) := by decide +kernel
theorem dL_law_328 : decode cL_law 328 = .ok (.aload_n 0, 1) := by decide +kernel
theorem dL_law_329 : decode cL_law 329 = .ok (.iload_n 3, 1) := by decide +kernel
theorem dL_law_330 : decode cL_law 330 = .ok (.iconst 2, 1) := by decide +kernel
theorem dL_law_331 : decode cL_law 331 = .ok (.iadd, 1) := by decide +kernel
theorem dL_law_332 : decode cL_law 332 = .ok (.iaload, 1) := by decide +kernel
theorem dL_law_333 : decode cL_law 333 = .ok (.invokevirtual 35, 3) := by decide +kernel
theorem dL_law_336 : decode cL_law 336 = .ok (.if_icmp .eq 826, 3) := by decide +kernel
theorem dL_law_339 : decode cL_law 339 = .ok (.iconst 0, 1) := by decide +kernel
theorem dL_law_340 : decode cL_law 340 = .ok (.ireturn, 1) := by decide +kernel
theorem dL_law_341 : decode cL_law 341 = .ok (.aload_n 1, 1) := by decide +kernel
theorem dL_law_342 : decode cL_law 342 = .ok (.aload_n 0, 1) := by decide +kernel
theorem dL_law_343 : decode cL_law 343 = .ok (.iload_n 3, 1) := by decide +kernel
theorem dL_law_344 : decode cL_law 344 = .ok (.iconst 1, 1) := by decide +kernel
theorem dL_law_345 : decode cL_law 345 = .ok (.iadd, 1) := by decide +kernel
theorem dL_law_346 : decode cL_law 346 = .ok (.iaload, 1) := by decide +kernel
theorem dL_law_347 : decode cL_law 347 = .ok (.aload_n 0, 1) := by decide +kernel
theorem dL_law_348 : decode cL_law 348 = .ok (.iload_n 3, 1) := by decide +kernel
theorem dL_law_349 : decode cL_law 349 = .ok (.iconst 2, 1) := by decide +kernel
theorem dL_law_350 : decode cL_law 350 = .ok (.iadd, 1) := by decide +kernel
theorem dL_law_351 : decode cL_law 351 = .ok (.iaload, 1) := by decide +kernel
theorem dL_law_352 : decode cL_law 352 = .ok (.aload_n 0, 1) := by decide +kernel
theorem dL_law_353 : decode cL_law 353 = .ok (.iload_n 3, 1) := by decide +kernel
theorem dL_law_354 : decode cL_law 354 = .ok (.iconst 3, 1) := by decide +kernel
theorem dL_law_355 : decode cL_law 355 = .ok (.iadd, 1) := by decide +kernel
theorem dL_law_356 : decode cL_law 356 = .ok (.iaload, 1) := by decide +kernel
theorem dL_law_357 : decode cL_law 357 = .ok (.invokevirtual 36, 3) := by decide +kernel
theorem dL_law_360 : decode cL_law 360 = .ok (.aload_n 2, 1) := by decide +kernel
theorem dL_law_361 : decode cL_law 361 = .ok (.aload_n 0, 1) := by decide +kernel
theorem dL_law_362 : decode cL_law 362 = .ok (.iload_n 3, 1) := by decide +kernel
theorem dL_law_363 : decode cL_law 363 = .ok (.iconst 1, 1) := by decide +kernel
theorem dL_law_364 : decode cL_law 364 = .ok (.iadd, 1) := by decide +kernel
theorem dL_law_365 : decode cL_law 365 = .ok (.iaload, 1) := by decide +kernel
theorem dL_law_366 : decode cL_law 366 = .ok (.aload_n 0, 1) := by decide +kernel
theorem dL_law_367 : decode cL_law 367 = .ok (.iload_n 3, 1) := by decide +kernel
theorem dL_law_368 : decode cL_law 368 = .ok (.iconst 2, 1) := by decide +kernel
theorem dL_law_369 : decode cL_law 369 = .ok (.iadd, 1) := by decide +kernel
theorem dL_law_370 : decode cL_law 370 = .ok (.iaload, 1) := by decide +kernel
theorem dL_law_371 : decode cL_law 371 = .ok (.aload_n 0, 1) := by decide +kernel
theorem dL_law_372 : decode cL_law 372 = .ok (.iload_n 3, 1) := by decide +kernel
theorem dL_law_373 : decode cL_law 373 = .ok (.iconst 3, 1) := by decide +kernel
theorem dL_law_374 : decode cL_law 374 = .ok (.iadd, 1) := by decide +kernel
theorem dL_law_375 : decode cL_law 375 = .ok (.iaload, 1) := by decide +kernel
theorem dL_law_376 : decode cL_law 376 = .ok (.invokevirtual 39, 3) := by decide +kernel
theorem dL_law_379 : decode cL_law 379 = .ok (.if_icmp .eq 783, 3) := by decide +kernel
theorem dL_law_382 : decode cL_law 382 = .ok (.iconst 0, 1) := by decide +kernel
theorem dL_law_383 : decode cL_law 383 = .ok (.ireturn, 1) := by decide +kernel
theorem dL_law_384 : decode cL_law 384 = .ok (.aload_n 1, 1) := by decide +kernel
theorem dL_law_385 : decode cL_law 385 = .ok (.aload_n 0, 1) := by decide +kernel
theorem dL_law_386 : decode cL_law 386 = .ok (.iload_n 3, 1) := by decide +kernel
theorem dL_law_387 : decode cL_law 387 = .ok (.iconst 1, 1) := by decide +kernel
theorem dL_law_388 : decode cL_law 388 = .ok (.iadd, 1) := by decide +kernel
theorem dL_law_389 : decode cL_law 389 = .ok (.iaload, 1) := by decide +kernel
theorem dL_law_390 : decode cL_law 390 = .ok (.aload_n 0, 1) := by decide +kernel
theorem dL_law_391 : decode cL_law 391 = .ok (.iload_n 3, 1) := by decide +kernel
theorem dL_law_392 : decode cL_law 392 = .ok (.iconst 2, 1) := by decide +kernel
theorem dL_law_393 : decode cL_law 393 = .ok (.iadd, 1) := by decide +kernel
theorem dL_law_394 : decode cL_law 394 = .ok (.iaload, 1) := by decide +kernel
theorem dL_law_395 : decode cL_law 395 = .ok (.aload_n 0, 1) := by decide +kernel
theorem dL_law_396 : decode cL_law 396 = .ok (.iload_n 3, 1) := by decide +kernel
theorem dL_law_397 : decode cL_law 397 = .ok (.iconst 3, 1) := by decide +kernel
theorem dL_law_398 : decode cL_law 398 = .ok (.iadd, 1) := by decide +kernel
theorem dL_law_399 : decode cL_law 399 = .ok (.iaload, 1) := by decide +kernel
theorem dL_law_400 : decode cL_law 400 = .ok (.invokevirtual 40, 3) := by decide +kernel
theorem dL_law_403 : decode cL_law 403 = .ok (.aload_n 2, 1) := by decide +kernel
theorem dL_law_404 : decode cL_law 404 = .ok (.aload_n 0, 1) := by decide +kernel
theorem dL_law_405 : decode cL_law 405 = .ok (.iload_n 3, 1) := by decide +kernel
theorem dL_law_406 : decode cL_law 406 = .ok (.iconst 1, 1) := by decide +kernel
theorem dL_law_407 : decode cL_law 407 = .ok (.iadd, 1) := by decide +kernel
theorem dL_law_408 : decode cL_law 408 = .ok (.iaload, 1) := by decide +kernel
theorem dL_law_409 : decode cL_law 409 = .ok (.aload_n 0, 1) := by decide +kernel
theorem dL_law_410 : decode cL_law 410 = .ok (.iload_n 3, 1) := by decide +kernel
theorem dL_law_411 : decode cL_law 411 = .ok (.iconst 2, 1) := by decide +kernel
theorem dL_law_412 : decode cL_law 412 = .ok (.iadd, 1) := by decide +kernel
theorem dL_law_413 : decode cL_law 413 = .ok (.iaload, 1) := by decide +kernel
theorem dL_law_414 : decode cL_law 414 = .ok (.aload_n 0, 1) := by decide +kernel
theorem dL_law_415 : decode cL_law 415 = .ok (.iload_n 3, 1) := by decide +kernel
theorem dL_law_416 : decode cL_law 416 = .ok (.iconst 3, 1) := by decide +kernel
theorem dL_law_417 : decode cL_law 417 = .ok (.iadd, 1) := by decide +kernel
theorem dL_law_418 : decode cL_law 418 = .ok (.iaload, 1) := by decide +kernel
theorem dL_law_419 : decode cL_law 419 = .ok (.invokevirtual 43, 3) := by decide +kernel
theorem dL_law_422 : decode cL_law 422 = .ok (.if_icmp .eq 740, 3) := by decide +kernel
theorem dL_law_425 : decode cL_law 425 = .ok (.iconst 0, 1) := by decide +kernel
theorem dL_law_426 : decode cL_law 426 = .ok (.ireturn, 1) := by decide +kernel
theorem dL_law_427 : decode cL_law 427 = .ok (.aload_n 1, 1) := by decide +kernel
theorem dL_law_428 : decode cL_law 428 = .ok (.aload_n 0, 1) := by decide +kernel
theorem dL_law_429 : decode cL_law 429 = .ok (.iload_n 3, 1) := by decide +kernel
theorem dL_law_430 : decode cL_law 430 = .ok (.iconst 1, 1) := by decide +kernel
theorem dL_law_431 : decode cL_law 431 = .ok (.iadd, 1) := by decide +kernel
theorem dL_law_432 : decode cL_law 432 = .ok (.iaload, 1) := by decide +kernel
theorem dL_law_433 : decode cL_law 433 = .ok (.invokevirtual 44, 3) := by decide +kernel
theorem dL_law_436 : decode cL_law 436 = .ok (.aload_n 2, 1) := by decide +kernel
theorem dL_law_437 : decode cL_law 437 = .ok (.aload_n 0, 1) := by decide +kernel
theorem dL_law_438 : decode cL_law 438 = .ok (.iload_n 3, 1) := by decide +kernel
theorem dL_law_439 : decode cL_law 439 = .ok (.iconst 1, 1) := by decide +kernel
theorem dL_law_440 : decode cL_law 440 = .ok (.iadd, 1) := by decide +kernel
theorem dL_law_441 : decode cL_law 441 = .ok (.iaload, 1) := by decide +kernel
theorem dL_law_442 : decode cL_law 442 = .ok (.invokevirtual 48, 3) := by decide +kernel
theorem dL_law_445 : decode cL_law 445 = .ok (.if_icmp .eq 717, 3) := by decide +kernel
theorem dL_law_448 : decode cL_law 448 = .ok (.iconst 0, 1) := by decide +kernel
theorem dL_law_449 : decode cL_law 449 = .ok (.ireturn, 1) := by decide +kernel
theorem dL_law_450 : decode cL_law 450 = .ok (.aload_n 1, 1) := by decide +kernel
theorem dL_law_451 : decode cL_law 451 = .ok (.aload_n 0, 1) := by decide +kernel
theorem dL_law_452 : decode cL_law 452 = .ok (.iload_n 3, 1) := by decide +kernel
theorem dL_law_453 : decode cL_law 453 = .ok (.iconst 1, 1) := by decide +kernel
theorem dL_law_454 : decode cL_law 454 = .ok (.iadd, 1) := by decide +kernel
theorem dL_law_455 : decode cL_law 455 = .ok (.iaload, 1) := by decide +kernel
theorem dL_law_456 : decode cL_law 456 = .ok (.aload_n 0, 1) := by decide +kernel
theorem dL_law_457 : decode cL_law 457 = .ok (.iload_n 3, 1) := by decide +kernel
theorem dL_law_458 : decode cL_law 458 = .ok (.iconst 2, 1) := by decide +kernel
theorem dL_law_459 : decode cL_law 459 = .ok (.iadd, 1) := by decide +kernel
theorem dL_law_460 : decode cL_law 460 = .ok (.iaload, 1) := by decide +kernel
theorem dL_law_461 : decode cL_law 461 = .ok (.invokevirtual 49, 3) := by decide +kernel
theorem dL_law_464 : decode cL_law 464 = .ok (.aload_n 2, 1) := by decide +kernel
theorem dL_law_465 : decode cL_law 465 = .ok (.aload_n 0, 1) := by decide +kernel
theorem dL_law_466 : decode cL_law 466 = .ok (.iload_n 3, 1) := by decide +kernel
theorem dL_law_467 : decode cL_law 467 = .ok (.iconst 1, 1) := by decide +kernel
theorem dL_law_468 : decode cL_law 468 = .ok (.iadd, 1) := by decide +kernel
theorem dL_law_469 : decode cL_law 469 = .ok (.iaload, 1) := by decide +kernel
theorem dL_law_470 : decode cL_law 470 = .ok (.aload_n 0, 1) := by decide +kernel
theorem dL_law_471 : decode cL_law 471 = .ok (.iload_n 3, 1) := by decide +kernel
theorem dL_law_472 : decode cL_law 472 = .ok (.iconst 2, 1) := by decide +kernel
theorem dL_law_473 : decode cL_law 473 = .ok (.iadd, 1) := by decide +kernel
theorem dL_law_474 : decode cL_law 474 = .ok (.iaload, 1) := by decide +kernel
theorem dL_law_475 : decode cL_law 475 = .ok (.invokevirtual 52, 3) := by decide +kernel
theorem dL_law_478 : decode cL_law 478 = .ok (.if_icmp .eq 684, 3) := by decide +kernel
theorem dL_law_481 : decode cL_law 481 = .ok (.iconst 0, 1) := by decide +kernel
theorem dL_law_482 : decode cL_law 482 = .ok (.ireturn, 1) := by decide +kernel
theorem dL_law_483 : decode cL_law 483 = .ok (.aload_n 1, 1) := by decide +kernel
theorem dL_law_484 : decode cL_law 484 = .ok (.aload_n 0, 1) := by decide +kernel
theorem dL_law_485 : decode cL_law 485 = .ok (.iload_n 3, 1) := by decide +kernel
theorem dL_law_486 : decode cL_law 486 = .ok (.iconst 1, 1) := by decide +kernel
theorem dL_law_487 : decode cL_law 487 = .ok (.iadd, 1) := by decide +kernel
theorem dL_law_488 : decode cL_law 488 = .ok (.iaload, 1) := by decide +kernel
theorem dL_law_489 : decode cL_law 489 = .ok (.aload_n 0, 1) := by decide +kernel
theorem dL_law_490 : decode cL_law 490 = .ok (.iload_n 3, 1) := by decide +kernel
theorem dL_law_491 : decode cL_law 491 = .ok (.iconst 2, 1) := by decide +kernel
theorem dL_law_492 : decode cL_law 492 = .ok (.iadd, 1) := by decide +kernel
theorem dL_law_493 : decode cL_law 493 = .ok (.iaload, 1) := by decide +kernel
theorem dL_law_494 : decode cL_law 494 = .ok (.invokevirtual 53, 3) := by decide +kernel
theorem dL_law_497 : decode cL_law 497 = .ok (.aload_n 2, 1) := by decide +kernel
theorem dL_law_498 : decode cL_law 498 = .ok (.aload_n 0, 1) := by decide +kernel
theorem dL_law_499 : decode cL_law 499 = .ok (.iload_n 3, 1) := by decide +kernel
theorem dL_law_500 : decode cL_law 500 = .ok (.iconst 1, 1) := by decide +kernel
theorem dL_law_501 : decode cL_law 501 = .ok (.iadd, 1) := by decide +kernel
theorem dL_law_502 : decode cL_law 502 = .ok (.iaload, 1) := by decide +kernel
theorem dL_law_503 : decode cL_law 503 = .ok (.aload_n 0, 1) := by decide +kernel
theorem dL_law_504 : decode cL_law 504 = .ok (.iload_n 3, 1) := by decide +kernel
theorem dL_law_505 : decode cL_law 505 = .ok (.iconst 2, 1) := by decide +kernel
theorem dL_law_506 : decode cL_law 506 = .ok (.iadd, 1) := by decide +kernel
theorem dL_law_507 : decode cL_law 507 = .ok (.iaload, 1) := by decide +kernel
theorem dL_law_508 : decode cL_law 508 = .ok (.invokevirtual 56, 3) := by decide +kernel
theorem dL_law_511 : decode cL_law 511 = .ok (.if_icmp .eq 651, 3) := by decide +kernel
theorem dL_law_514 : decode cL_law 514 = .ok (.iconst 0, 1) := by decide +kernel
theorem dL_law_515 : decode cL_law 515 = .ok (.ireturn, 1) := by decide +kernel
theorem dL_law_516 : decode cL_law 516 = .ok (.aload_n 1, 1) := by decide +kernel
theorem dL_law_517 : decode cL_law 517 = .ok (.aload_n 0, 1) := by decide +kernel
theorem dL_law_518 : decode cL_law 518 = .ok (.iload_n 3, 1) := by decide +kernel
theorem dL_law_519 : decode cL_law 519 = .ok (.iconst 1, 1) := by decide +kernel
theorem dL_law_520 : decode cL_law 520 = .ok (.iadd, 1) := by decide +kernel
theorem dL_law_521 : decode cL_law 521 = .ok (.iaload, 1) := by decide +kernel
theorem dL_law_522 : decode cL_law 522 = .ok (.aload_n 0, 1) := by decide +kernel
theorem dL_law_523 : decode cL_law 523 = .ok (.iload_n 3, 1) := by decide +kernel
theorem dL_law_524 : decode cL_law 524 = .ok (.iconst 2, 1) := by decide +kernel
theorem dL_law_525 : decode cL_law 525 = .ok (.iadd, 1) := by decide +kernel
theorem dL_law_526 : decode cL_law 526 = .ok (.iaload, 1) := by decide +kernel
theorem dL_law_527 : decode cL_law 527 = .ok (.aload_n 0, 1) := by decide +kernel
theorem dL_law_528 : decode cL_law 528 = .ok (.iload_n 3, 1) := by decide +kernel
theorem dL_law_529 : decode cL_law 529 = .ok (.iconst 3, 1) := by decide +kernel
theorem dL_law_530 : decode cL_law 530 = .ok (.iadd, 1) := by decide +kernel
theorem dL_law_531 : decode cL_law 531 = .ok (.iaload, 1) := by decide +kernel
theorem dL_law_532 : decode cL_law 532 = .ok (.invokevirtual 57, 3) := by decide +kernel
theorem dL_law_535 : decode cL_law 535 = .ok (.aload_n 2, 1) := by decide +kernel
theorem dL_law_536 : decode cL_law 536 = .ok (.aload_n 0, 1) := by decide +kernel
theorem dL_law_537 : decode cL_law 537 = .ok (.iload_n 3, 1) := by decide +kernel
theorem dL_law_538 : decode cL_law 538 = .ok (.iconst 1, 1) := by decide +kernel
theorem dL_law_539 : decode cL_law 539 = .ok (.iadd, 1) := by decide +kernel
theorem dL_law_540 : decode cL_law 540 = .ok (.iaload, 1) := by decide +kernel
theorem dL_law_541 : decode cL_law 541 = .ok (.aload_n 0, 1) := by decide +kernel
theorem dL_law_542 : decode cL_law 542 = .ok (.iload_n 3, 1) := by decide +kernel
theorem dL_law_543 : decode cL_law 543 = .ok (.iconst 2, 1) := by decide +kernel
theorem dL_law_544 : decode cL_law 544 = .ok (.iadd, 1) := by decide +kernel
theorem dL_law_545 : decode cL_law 545 = .ok (.iaload, 1) := by decide +kernel
theorem dL_law_546 : decode cL_law 546 = .ok (.aload_n 0, 1) := by decide +kernel
theorem dL_law_547 : decode cL_law 547 = .ok (.iload_n 3, 1) := by decide +kernel
theorem dL_law_548 : decode cL_law 548 = .ok (.iconst 3, 1) := by decide +kernel
theorem dL_law_549 : decode cL_law 549 = .ok (.iadd, 1) := by decide +kernel
theorem dL_law_550 : decode cL_law 550 = .ok (.iaload, 1) := by decide +kernel
theorem dL_law_551 : decode cL_law 551 = .ok (.invokevirtual 60, 3) := by decide +kernel
theorem dL_law_554 : decode cL_law 554 = .ok (.if_icmp .eq 608, 3) := by decide +kernel
theorem dL_law_557 : decode cL_law 557 = .ok (.iconst 0, 1) := by decide +kernel
theorem dL_law_558 : decode cL_law 558 = .ok (.ireturn, 1) := by decide +kernel
theorem dL_law_559 : decode cL_law 559 = .ok (.aload_n 1, 1) := by decide +kernel
theorem dL_law_560 : decode cL_law 560 = .ok (.aload_n 0, 1) := by decide +kernel
theorem dL_law_561 : decode cL_law 561 = .ok (.iload_n 3, 1) := by decide +kernel
theorem dL_law_562 : decode cL_law 562 = .ok (.iconst 1, 1) := by decide +kernel
theorem dL_law_563 : decode cL_law 563 = .ok (.iadd, 1) := by decide +kernel
theorem dL_law_564 : decode cL_law 564 = .ok (.iaload, 1) := by decide +kernel
theorem dL_law_565 : decode cL_law 565 = .ok (.aload_n 0, 1) := by decide +kernel
theorem dL_law_566 : decode cL_law 566 = .ok (.iload_n 3, 1) := by decide +kernel
theorem dL_law_567 : decode cL_law 567 = .ok (.iconst 2, 1) := by decide +kernel
theorem dL_law_568 : decode cL_law 568 = .ok (.iadd, 1) := by decide +kernel
theorem dL_law_569 : decode cL_law 569 = .ok (.iaload, 1) := by decide +kernel
theorem dL_law_570 : decode cL_law 570 = .ok (.aload_n 0, 1) := by decide +kernel
theorem dL_law_571 : decode cL_law 571 = .ok (.iload_n 3, 1) := by decide +kernel
theorem dL_law_572 : decode cL_law 572 = .ok (.iconst 3, 1) := by decide +kernel
theorem dL_law_573 : decode cL_law 573 = .ok (.iadd, 1) := by decide +kernel
theorem dL_law_574 : decode cL_law 574 = .ok (.iaload, 1) := by decide +kernel
theorem dL_law_575 : decode cL_law 575 = .ok (.invokevirtual 61, 3) := by decide +kernel
theorem dL_law_578 : decode cL_law 578 = .ok (.aload_n 2, 1) := by decide +kernel
theorem dL_law_579 : decode cL_law 579 = .ok (.aload_n 0, 1) := by decide +kernel
theorem dL_law_580 : decode cL_law 580 = .ok (.iload_n 3, 1) := by decide +kernel
theorem dL_law_581 : decode cL_law 581 = .ok (.iconst 1, 1) := by decide +kernel
theorem dL_law_582 : decode cL_law 582 = .ok (.iadd, 1) := by decide +kernel
theorem dL_law_583 : decode cL_law 583 = .ok (.iaload, 1) := by decide +kernel
theorem dL_law_584 : decode cL_law 584 = .ok (.aload_n 0, 1) := by decide +kernel
theorem dL_law_585 : decode cL_law 585 = .ok (.iload_n 3, 1) := by decide +kernel
theorem dL_law_586 : decode cL_law 586 = .ok (.iconst 2, 1) := by decide +kernel
theorem dL_law_587 : decode cL_law 587 = .ok (.iadd, 1) := by decide +kernel
theorem dL_law_588 : decode cL_law 588 = .ok (.iaload, 1) := by decide +kernel
theorem dL_law_589 : decode cL_law 589 = .ok (.aload_n 0, 1) := by decide +kernel
theorem dL_law_590 : decode cL_law 590 = .ok (.iload_n 3, 1) := by decide +kernel
theorem dL_law_591 : decode cL_law 591 = .ok (.iconst 3, 1) := by decide +kernel
theorem dL_law_592 : decode cL_law 592 = .ok (.iadd, 1) := by decide +kernel
theorem dL_law_593 : decode cL_law 593 = .ok (.iaload, 1) := by decide +kernel
theorem dL_law_594 : decode cL_law 594 = .ok (.invokevirtual 64, 3) := by decide +kernel
theorem dL_law_597 : decode cL_law 597 = .ok (.if_icmp .eq 565, 3) := by decide +kernel
theorem dL_law_600 : decode cL_law 600 = .ok (.iconst 0, 1) := by decide +kernel
theorem dL_law_601 : decode cL_law 601 = .ok (.ireturn, 1) := by decide +kernel
theorem dL_law_602 : decode cL_law 602 = .ok (.aload_n 1, 1) := by decide +kernel
theorem dL_law_603 : decode cL_law 603 = .ok (.aload_n 0, 1) := by decide +kernel
theorem dL_law_604 : decode cL_law 604 = .ok (.iload_n 3, 1) := by decide +kernel
theorem dL_law_605 : decode cL_law 605 = .ok (.iconst 1, 1) := by decide +kernel
theorem dL_law_606 : decode cL_law 606 = .ok (.iadd, 1) := by decide +kernel
theorem dL_law_607 : decode cL_law 607 = .ok (.iaload, 1) := by decide +kernel
theorem dL_law_608 : decode cL_law 608 = .ok (.aload_n 0, 1) := by decide +kernel
theorem dL_law_609 : decode cL_law 609 = .ok (.iload_n 3, 1) := by decide +kernel
theorem dL_law_610 : decode cL_law 610 = .ok (.iconst 2, 1) := by decide +kernel
theorem dL_law_611 : decode cL_law 611 = .ok (.iadd, 1) := by decide +kernel
theorem dL_law_612 : decode cL_law 612 = .ok (.iaload, 1) := by decide +kernel
theorem dL_law_613 : decode cL_law 613 = .ok (.aload_n 0, 1) := by decide +kernel
theorem dL_law_614 : decode cL_law 614 = .ok (.iload_n 3, 1) := by decide +kernel
theorem dL_law_615 : decode cL_law 615 = .ok (.iconst 3, 1) := by decide +kernel
theorem dL_law_616 : decode cL_law 616 = .ok (.iadd, 1) := by decide +kernel
theorem dL_law_617 : decode cL_law 617 = .ok (.iaload, 1) := by decide +kernel
theorem dL_law_618 : decode cL_law 618 = .ok (.invokevirtual 65, 3) := by decide +kernel
theorem dL_law_621 : decode cL_law 621 = .ok (.aload_n 2, 1) := by decide +kernel
theorem dL_law_622 : decode cL_law 622 = .ok (.aload_n 0, 1) := by decide +kernel
theorem dL_law_623 : decode cL_law 623 = .ok (.iload_n 3, 1) := by decide +kernel
theorem dL_law_624 : decode cL_law 624 = .ok (.iconst 1, 1) := by decide +kernel
theorem dL_law_625 : decode cL_law 625 = .ok (.iadd, 1) := by decide +kernel
theorem dL_law_626 : decode cL_law 626 = .ok (.iaload, 1) := by decide +kernel
theorem dL_law_627 : decode cL_law 627 = .ok (.aload_n 0, 1) := by decide +kernel
theorem dL_law_628 : decode cL_law 628 = .ok (.iload_n 3, 1) := by decide +kernel
theorem dL_law_629 : decode cL_law 629 = .ok (.iconst 2, 1) := by decide +kernel
theorem dL_law_630 : decode cL_law 630 = .ok (.iadd, 1) := by decide +kernel
theorem dL_law_631 : decode cL_law 631 = .ok (.iaload, 1) := by decide +kernel
theorem dL_law_632 : decode cL_law 632 = .ok (.aload_n 0, 1) := by decide +kernel
theorem dL_law_633 : decode cL_law 633 = .ok (.iload_n 3, 1) := by decide +kernel
theorem dL_law_634 : decode cL_law 634 = .ok (.iconst 3, 1) := by decide +kernel
theorem dL_law_635 : decode cL_law 635 = .ok (.iadd, 1) := by decide +kernel
theorem dL_law_636 : decode cL_law 636 = .ok (.iaload, 1) := by decide +kernel
theorem dL_law_637 : decode cL_law 637 = .ok (.invokevirtual 68, 3) := by decide +kernel
theorem dL_law_640 : decode cL_law 640 = .ok (.if_icmp .eq 522, 3) := by decide +kernel
theorem dL_law_643 : decode cL_law 643 = .ok (.iconst 0, 1) := by decide +kernel
theorem dL_law_644 : decode cL_law 644 = .ok (.ireturn, 1) := by decide +kernel
theorem dL_law_645 : decode cL_law 645 = .ok (.aload_n 1, 1) := by decide +kernel
theorem dL_law_646 : decode cL_law 646 = .ok (.aload_n 0, 1) := by decide +kernel
theorem dL_law_647 : decode cL_law 647 = .ok (.iload_n 3, 1) := by decide +kernel
theorem dL_law_648 : decode cL_law 648 = .ok (.iconst 1, 1) := by decide +kernel
theorem dL_law_649 : decode cL_law 649 = .ok (.iadd, 1) := by decide +kernel
theorem dL_law_650 : decode cL_law 650 = .ok (.iaload, 1) := by decide +kernel
theorem dL_law_651 : decode cL_law 651 = .ok (.aload_n 0, 1) := by decide +kernel
theorem dL_law_652 : decode cL_law 652 = .ok (.iload_n 3, 1) := by decide +kernel
theorem dL_law_653 : decode cL_law 653 = .ok (.iconst 2, 1) := by decide +kernel
theorem dL_law_654 : decode cL_law 654 = .ok (.iadd, 1) := by decide +kernel
theorem dL_law_655 : decode cL_law 655 = .ok (.iaload, 1) := by decide +kernel
theorem dL_law_656 : decode cL_law 656 = .ok (.invokevirtual 69, 3) := by decide +kernel
theorem dL_law_659 : decode cL_law 659 = .ok (.aload_n 2, 1) := by decide +kernel
theorem dL_law_660 : decode cL_law 660 = .ok (.aload_n 0, 1) := by decide +kernel
theorem dL_law_661 : decode cL_law 661 = .ok (.iload_n 3, 1) := by decide +kernel
theorem dL_law_662 : decode cL_law 662 = .ok (.iconst 1, 1) := by decide +kernel
theorem dL_law_663 : decode cL_law 663 = .ok (.iadd, 1) := by decide +kernel
theorem dL_law_664 : decode cL_law 664 = .ok (.iaload, 1) := by decide +kernel
theorem dL_law_665 : decode cL_law 665 = .ok (.aload_n 0, 1) := by decide +kernel
theorem dL_law_666 : decode cL_law 666 = .ok (.iload_n 3, 1) := by decide +kernel
theorem dL_law_667 : decode cL_law 667 = .ok (.iconst 2, 1) := by decide +kernel
theorem dL_law_668 : decode cL_law 668 = .ok (.iadd, 1) := by decide +kernel
theorem dL_law_669 : decode cL_law 669 = .ok (.iaload, 1) := by decide +kernel
theorem dL_law_670 : decode cL_law 670 = .ok (.invokevirtual 72, 3) := by decide +kernel
theorem dL_law_673 : decode cL_law 673 = .ok (.if_icmp .eq 489, 3) := by decide +kernel
theorem dL_law_676 : decode cL_law 676 = .ok (.iconst 0, 1) := by decide +kernel
theorem dL_law_677 : decode cL_law 677 = .ok (.ireturn, 1) := by decide +kernel
theorem dL_law_678 : decode cL_law 678 = .ok (.aload_n 1, 1) := by decide +kernel
theorem dL_law_679 : decode cL_law 679 = .ok (.aload_n 0, 1) := by decide +kernel
theorem dL_law_680 : decode cL_law 680 = .ok (.iload_n 3, 1) := by decide +kernel
theorem dL_law_681 : decode cL_law 681 = .ok (.iconst 1, 1) := by decide +kernel
theorem dL_law_682 : decode cL_law 682 = .ok (.iadd, 1) := by decide +kernel
theorem dL_law_683 : decode cL_law 683 = .ok (.iaload, 1) := by decide +kernel
theorem dL_law_684 : decode cL_law 684 = .ok (.aload_n 0, 1) := by decide +kernel
theorem dL_law_685 : decode cL_law 685 = .ok (.iload_n 3, 1) := by decide +kernel
theorem dL_law_686 : decode cL_law 686 = .ok (.iconst 2, 1) := by decide +kernel
theorem dL_law_687 : decode cL_law 687 = .ok (.iadd, 1) := by decide +kernel
theorem dL_law_688 : decode cL_law 688 = .ok (.iaload, 1) := by decide +kernel
theorem dL_law_689 : decode cL_law 689 = .ok (.invokevirtual 73, 3) := by decide +kernel
theorem dL_law_692 : decode cL_law 692 = .ok (.aload_n 2, 1) := by decide +kernel
theorem dL_law_693 : decode cL_law 693 = .ok (.aload_n 0, 1) := by decide +kernel
theorem dL_law_694 : decode cL_law 694 = .ok (.iload_n 3, 1) := by decide +kernel
theorem dL_law_695 : decode cL_law 695 = .ok (.iconst 1, 1) := by decide +kernel
theorem dL_law_696 : decode cL_law 696 = .ok (.iadd, 1) := by decide +kernel
theorem dL_law_697 : decode cL_law 697 = .ok (.iaload, 1) := by decide +kernel
theorem dL_law_698 : decode cL_law 698 = .ok (.aload_n 0, 1) := by decide +kernel
theorem dL_law_699 : decode cL_law 699 = .ok (.iload_n 3, 1) := by decide +kernel
theorem dL_law_700 : decode cL_law 700 = .ok (.iconst 2, 1) := by decide +kernel
theorem dL_law_701 : decode cL_law 701 = .ok (.iadd, 1) := by decide +kernel
theorem dL_law_702 : decode cL_law 702 = .ok (.iaload, 1) := by decide +kernel
theorem dL_law_703 : decode cL_law 703 = .ok (.invokevirtual 76, 3) := by decide +kernel
theorem dL_law_706 : decode cL_law 706 = .ok (.if_icmp .eq 456, 3) := by decide +kernel
theorem dL_law_709 : decode cL_law 709 = .ok (.iconst 0, 1) := by decide +kernel
theorem dL_law_710 : decode cL_law 710 = .ok (.ireturn, 1) := by decide +kernel
theorem dL_law_711 : decode cL_law 711 = .ok (.aload_n 1, 1) := by decide +kernel
theorem dL_law_712 : decode cL_law 712 = .ok (.aload_n 0, 1) := by decide +kernel
theorem dL_law_713 : decode cL_law 713 = .ok (.iload_n 3, 1) := by decide +kernel
theorem dL_law_714 : decode cL_law 714 = .ok (.iconst 1, 1) := by decide +kernel
theorem dL_law_715 : decode cL_law 715 = .ok (.iadd, 1) := by decide +kernel
theorem dL_law_716 : decode cL_law 716 = .ok (.iaload, 1) := by decide +kernel
theorem dL_law_717 : decode cL_law 717 = .ok (.aload_n 0, 1) := by decide +kernel
theorem dL_law_718 : decode cL_law 718 = .ok (.iload_n 3, 1) := by decide +kernel
theorem dL_law_719 : decode cL_law 719 = .ok (.iconst 2, 1) := by decide +kernel
theorem dL_law_720 : decode cL_law 720 = .ok (.iadd, 1) := by decide +kernel
theorem dL_law_721 : decode cL_law 721 = .ok (.iaload, 1) := by decide +kernel
theorem dL_law_722 : decode cL_law 722 = .ok (.aload_n 0, 1) := by decide +kernel
theorem dL_law_723 : decode cL_law 723 = .ok (.iload_n 3, 1) := by decide +kernel
theorem dL_law_724 : decode cL_law 724 = .ok (.iconst 3, 1) := by decide +kernel
theorem dL_law_725 : decode cL_law 725 = .ok (.iadd, 1) := by decide +kernel
theorem dL_law_726 : decode cL_law 726 = .ok (.iaload, 1) := by decide +kernel
theorem dL_law_727 : decode cL_law 727 = .ok (.aload_n 0, 1) := by decide +kernel
theorem dL_law_728 : decode cL_law 728 = .ok (.iload_n 3, 1) := by decide +kernel
theorem dL_law_729 : decode cL_law 729 = .ok (.iconst 4, 1) := by decide +kernel
theorem dL_law_730 : decode cL_law 730 = .ok (.iadd, 1) := by decide +kernel
theorem dL_law_731 : decode cL_law 731 = .ok (.iaload, 1) := by decide +kernel
theorem dL_law_732 : decode cL_law 732 = .ok (.invokevirtual 77, 3) := by decide +kernel
theorem dL_law_735 : decode cL_law 735 = .ok (.aload_n 2, 1) := by decide +kernel
theorem dL_law_736 : decode cL_law 736 = .ok (.aload_n 0, 1) := by decide +kernel
theorem dL_law_737 : decode cL_law 737 = .ok (.iload_n 3, 1) := by decide +kernel
theorem dL_law_738 : decode cL_law 738 = .ok (.iconst 1, 1) := by decide +kernel
theorem dL_law_739 : decode cL_law 739 = .ok (.iadd, 1) := by decide +kernel
theorem dL_law_740 : decode cL_law 740 = .ok (.iaload, 1) := by decide +kernel
theorem dL_law_741 : decode cL_law 741 = .ok (.aload_n 0, 1) := by decide +kernel
theorem dL_law_742 : decode cL_law 742 = .ok (.iload_n 3, 1) := by decide +kernel
theorem dL_law_743 : decode cL_law 743 = .ok (.iconst 2, 1) := by decide +kernel
theorem dL_law_744 : decode cL_law 744 = .ok (.iadd, 1) := by decide +kernel
theorem dL_law_745 : decode cL_law 745 = .ok (.iaload, 1) := by decide +kernel
theorem dL_law_746 : decode cL_law 746 = .ok (.aload_n 0, 1) := by decide +kernel
theorem dL_law_747 : decode cL_law 747 = .ok (.iload_n 3, 1) := by decide +kernel
theorem dL_law_748 : decode cL_law 748 = .ok (.iconst 3, 1) := by decide +kernel
theorem dL_law_749 : decode cL_law 749 = .ok (.iadd, 1) := by decide +kernel
theorem dL_law_750 : decode cL_law 750 = .ok (.iaload, 1) := by decide +kernel
theorem dL_law_751 : decode cL_law 751 = .ok (.aload_n 0, 1) := by decide +kernel
theorem dL_law_752 : decode cL_law 752 = .ok (.iload_n 3, 1) := by decide +kernel
theorem dL_law_753 : decode cL_law 753 = .ok (.iconst 4, 1) := by decide +kernel
theorem dL_law_754 : decode cL_law 754 = .ok (.iadd, 1) := by decide +kernel
theorem dL_law_755 : decode cL_law 755 = .ok (.iaload, 1) := by decide +kernel
theorem dL_law_756 : decode cL_law 756 = .ok (.invokevirtual 81, 3) := by decide +kernel
theorem dL_law_759 : decode cL_law 759 = .ok (.if_icmp .eq 403, 3) := by decide +kernel
theorem dL_law_762 : decode cL_law 762 = .ok (.iconst 0, 1) := by decide +kernel
theorem dL_law_763 : decode cL_law 763 = .ok (.ireturn, 1) := by decide +kernel
theorem dL_law_764 : decode cL_law 764 = .ok (.aload_n 1, 1) := by decide +kernel
theorem dL_law_765 : decode cL_law 765 = .ok (.aload_n 0, 1) := by decide +kernel
theorem dL_law_766 : decode cL_law 766 = .ok (.iload_n 3, 1) := by decide +kernel
theorem dL_law_767 : decode cL_law 767 = .ok (.iconst 1, 1) := by decide +kernel
theorem dL_law_768 : decode cL_law 768 = .ok (.iadd, 1) := by decide +kernel
theorem dL_law_769 : decode cL_law 769 = .ok (.iaload, 1) := by decide +kernel
theorem dL_law_770 : decode cL_law 770 = .ok (.aload_n 0, 1) := by decide +kernel
theorem dL_law_771 : decode cL_law 771 = .ok (.iload_n 3, 1) := by decide +kernel
theorem dL_law_772 : decode cL_law 772 = .ok (.iconst 2, 1) := by decide +kernel
theorem dL_law_773 : decode cL_law 773 = .ok (.iadd, 1) := by decide +kernel
theorem dL_law_774 : decode cL_law 774 = .ok (.iaload, 1) := by decide +kernel
theorem dL_law_775 : decode cL_law 775 = .ok (.invokevirtual 82, 3) := by decide +kernel
theorem dL_law_778 : decode cL_law 778 = .ok (.aload_n 2, 1) := by decide +kernel
theorem dL_law_779 : decode cL_law 779 = .ok (.aload_n 0, 1) := by decide +kernel
theorem dL_law_780 : decode cL_law 780 = .ok (.iload_n 3, 1) := by decide +kernel
theorem dL_law_781 : decode cL_law 781 = .ok (.iconst 1, 1) := by decide +kernel
theorem dL_law_782 : decode cL_law 782 = .ok (.iadd, 1) := by decide +kernel
theorem dL_law_783 : decode cL_law 783 = .ok (.iaload, 1) := by decide +kernel
theorem dL_law_784 : decode cL_law 784 = .ok (.aload_n 0, 1) := by decide +kernel
theorem dL_law_785 : decode cL_law 785 = .ok (.iload_n 3, 1) := by decide +kernel
theorem dL_law_786 : decode cL_law 786 = .ok (.iconst 2, 1) := by decide +kernel
theorem dL_law_787 : decode cL_law 787 = .ok (.iadd, 1) := by decide +kernel
theorem dL_law_788 : decode cL_law 788 = .ok (.iaload, 1) := by decide +kernel
theorem dL_law_789 : decode cL_law 789 = .ok (.invokevirtual 85, 3) := by decide +kernel
theorem dL_law_792 : decode cL_law 792 = .ok (.if_icmp .eq 370, 3) := by decide +kernel
theorem dL_law_795 : decode cL_law 795 = .ok (.iconst 0, 1) := by decide +kernel
theorem dL_law_796 : decode cL_law 796 = .ok (.ireturn, 1) := by decide +kernel
theorem dL_law_797 : decode cL_law 797 = .ok (.aload_n 1, 1) := by decide +kernel
theorem dL_law_798 : decode cL_law 798 = .ok (.aload_n 0, 1) := by decide +kernel
theorem dL_law_799 : decode cL_law 799 = .ok (.iload_n 3, 1) := by decide +kernel
theorem dL_law_800 : decode cL_law 800 = .ok (.iconst 1, 1) := by decide +kernel
theorem dL_law_801 : decode cL_law 801 = .ok (.iadd, 1) := by decide +kernel
theorem dL_law_802 : decode cL_law 802 = .ok (.iaload, 1) := by decide +kernel
theorem dL_law_803 : decode cL_law 803 = .ok (.aload_n 0, 1) := by decide +kernel
theorem dL_law_804 : decode cL_law 804 = .ok (.iload_n 3, 1) := by decide +kernel
theorem dL_law_805 : decode cL_law 805 = .ok (.iconst 2, 1) := by decide +kernel
theorem dL_law_806 : decode cL_law 806 = .ok (.iadd, 1) := by decide +kernel
theorem dL_law_807 : decode cL_law 807 = .ok (.iaload, 1) := by decide +kernel
theorem dL_law_808 : decode cL_law 808 = .ok (.invokevirtual 86, 3) := by decide +kernel
theorem dL_law_811 : decode cL_law 811 = .ok (.aload_n 2, 1) := by decide +kernel
theorem dL_law_812 : decode cL_law 812 = .ok (.aload_n 0, 1) := by decide +kernel
theorem dL_law_813 : decode cL_law 813 = .ok (.iload_n 3, 1) := by decide +kernel
theorem dL_law_814 : decode cL_law 814 = .ok (.iconst 1, 1) := by decide +kernel
theorem dL_law_815 : decode cL_law 815 = .ok (.iadd, 1) := by decide +kernel
theorem dL_law_816 : decode cL_law 816 = .ok (.iaload, 1) := by decide +kernel
theorem dL_law_817 : decode cL_law 817 = .ok (.aload_n 0, 1) := by decide +kernel
theorem dL_law_818 : decode cL_law 818 = .ok (.iload_n 3, 1) := by decide +kernel
theorem dL_law_819 : decode cL_law 819 = .ok (.iconst 2, 1) := by decide +kernel
theorem dL_law_820 : decode cL_law 820 = .ok (.iadd, 1) := by decide +kernel
theorem dL_law_821 : decode cL_law 821 = .ok (.iaload, 1) := by decide +kernel
theorem dL_law_822 : decode cL_law 822 = .ok (.invokevirtual 89, 3) := by decide +kernel
theorem dL_law_825 : decode cL_law 825 = .ok (.if_icmp .eq 337, 3) := by decide +kernel
theorem dL_law_828 : decode cL_law 828 = .ok (.iconst 0, 1) := by decide +kernel
theorem dL_law_829 : decode cL_law 829 = .ok (.ireturn, 1) := by decide +kernel
theorem dL_law_830 : decode cL_law 830 = .ok (.aload_n 1, 1) := by decide +kernel
theorem dL_law_831 : decode cL_law 831 = .ok (.aload_n 0, 1) := by decide +kernel
theorem dL_law_832 : decode cL_law 832 = .ok (.iload_n 3, 1) := by decide +kernel
theorem dL_law_833 : decode cL_law 833 = .ok (.iconst 1, 1) := by decide +kernel
theorem dL_law_834 : decode cL_law 834 = .ok (.iadd, 1) := by decide +kernel
theorem dL_law_835 : decode cL_law 835 = .ok (.iaload, 1) := by decide +kernel
theorem dL_law_836 : decode cL_law 836 = .ok (.aload_n 0, 1) := by decide +kernel
theorem dL_law_837 : decode cL_law 837 = .ok (.iload_n 3, 1) := by decide +kernel
theorem dL_law_838 : decode cL_law 838 = .ok (.iconst 2, 1) := by decide +kernel
theorem dL_law_839 : decode cL_law 839 = .ok (.iadd, 1) := by decide +kernel
theorem dL_law_840 : decode cL_law 840 = .ok (.iaload, 1) := by decide +kernel
theorem dL_law_841 : decode cL_law 841 = .ok (.aload_n 0, 1) := by decide +kernel
theorem dL_law_842 : decode cL_law 842 = .ok (.iload_n 3, 1) := by decide +kernel
theorem dL_law_843 : decode cL_law 843 = .ok (.iconst 3, 1) := by decide +kernel
theorem dL_law_844 : decode cL_law 844 = .ok (.iadd, 1) := by decide +kernel
theorem dL_law_845 : decode cL_law 845 = .ok (.iaload, 1) := by decide +kernel
theorem dL_law_846 : decode cL_law 846 = .ok (.aload_n 0, 1) := by decide +kernel
theorem dL_law_847 : decode cL_law 847 = .ok (.iload_n 3, 1) := by decide +kernel
theorem dL_law_848 : decode cL_law 848 = .ok (.iconst 4, 1) := by decide +kernel
theorem dL_law_849 : decode cL_law 849 = .ok (.iadd, 1) := by decide +kernel
theorem dL_law_850 : decode cL_law 850 = .ok (.iaload, 1) := by decide +kernel
theorem dL_law_851 : decode cL_law 851 = .ok (.invokevirtual 90, 3) := by decide +kernel
theorem dL_law_854 : decode cL_law 854 = .ok (.aload_n 2, 1) := by decide +kernel
theorem dL_law_855 : decode cL_law 855 = .ok (.aload_n 0, 1) := by decide +kernel
theorem dL_law_856 : decode cL_law 856 = .ok (.iload_n 3, 1) := by decide +kernel
theorem dL_law_857 : decode cL_law 857 = .ok (.iconst 1, 1) := by decide +kernel
theorem dL_law_858 : decode cL_law 858 = .ok (.iadd, 1) := by decide +kernel
theorem dL_law_859 : decode cL_law 859 = .ok (.iaload, 1) := by decide +kernel
theorem dL_law_860 : decode cL_law 860 = .ok (.aload_n 0, 1) := by decide +kernel
theorem dL_law_861 : decode cL_law 861 = .ok (.iload_n 3, 1) := by decide +kernel
theorem dL_law_862 : decode cL_law 862 = .ok (.iconst 2, 1) := by decide +kernel
theorem dL_law_863 : decode cL_law 863 = .ok (.iadd, 1) := by decide +kernel
theorem dL_law_864 : decode cL_law 864 = .ok (.iaload, 1) := by decide +kernel
theorem dL_law_865 : decode cL_law 865 = .ok (.aload_n 0, 1) := by decide +kernel
theorem dL_law_866 : decode cL_law 866 = .ok (.iload_n 3, 1) := by decide +kernel
theorem dL_law_867 : decode cL_law 867 = .ok (.iconst 3, 1) := by decide +kernel
theorem dL_law_868 : decode cL_law 868 = .ok (.iadd, 1) := by decide +kernel
theorem dL_law_869 : decode cL_law 869 = .ok (.iaload, 1) := by decide +kernel
theorem dL_law_870 : decode cL_law 870 = .ok (.aload_n 0, 1) := by decide +kernel
theorem dL_law_871 : decode cL_law 871 = .ok (.iload_n 3, 1) := by decide +kernel
theorem dL_law_872 : decode cL_law 872 = .ok (.iconst 4, 1) := by decide +kernel
theorem dL_law_873 : decode cL_law 873 = .ok (.iadd, 1) := by decide +kernel
theorem dL_law_874 : decode cL_law 874 = .ok (.iaload, 1) := by decide +kernel
theorem dL_law_875 : decode cL_law 875 = .ok (.invokevirtual 93, 3) := by decide +kernel
theorem dL_law_878 : decode cL_law 878 = .ok (.if_icmp .eq 284, 3) := by decide +kernel
theorem dL_law_881 : decode cL_law 881 = .ok (.iconst 0, 1) := by decide +kernel
theorem dL_law_882 : decode cL_law 882 = .ok (.ireturn, 1) := by decide +kernel
theorem dL_law_883 : decode cL_law 883 = .ok (.aload_n 1, 1) := by decide +kernel
theorem dL_law_884 : decode cL_law 884 = .ok (.aload_n 0, 1) := by decide +kernel
theorem dL_law_885 : decode cL_law 885 = .ok (.iload_n 3, 1) := by decide +kernel
theorem dL_law_886 : decode cL_law 886 = .ok (.iconst 1, 1) := by decide +kernel
theorem dL_law_887 : decode cL_law 887 = .ok (.iadd, 1) := by decide +kernel
theorem dL_law_888 : decode cL_law 888 = .ok (.iaload, 1) := by decide +kernel
theorem dL_law_889 : decode cL_law 889 = .ok (.aload_n 0, 1) := by decide +kernel
theorem dL_law_890 : decode cL_law 890 = .ok (.iload_n 3, 1) := by decide +kernel
theorem dL_law_891 : decode cL_law 891 = .ok (.iconst 2, 1) := by decide +kernel
theorem dL_law_892 : decode cL_law 892 = .ok (.iadd, 1) := by decide +kernel
theorem dL_law_893 : decode cL_law 893 = .ok (.iaload, 1) := by decide +kernel
theorem dL_law_894 : decode cL_law 894 = .ok (.invokevirtual 94, 3) := by decide +kernel
theorem dL_law_897 : decode cL_law 897 = .ok (.aload_n 2, 1) := by decide +kernel
theorem dL_law_898 : decode cL_law 898 = .ok (.aload_n 0, 1) := by decide +kernel
theorem dL_law_899 : decode cL_law 899 = .ok (.iload_n 3, 1) := by decide +kernel
theorem dL_law_900 : decode cL_law 900 = .ok (.iconst 1, 1) := by decide +kernel
theorem dL_law_901 : decode cL_law 901 = .ok (.iadd, 1) := by decide +kernel
theorem dL_law_902 : decode cL_law 902 = .ok (.iaload, 1) := by decide +kernel
theorem dL_law_903 : decode cL_law 903 = .ok (.aload_n 0, 1) := by decide +kernel
theorem dL_law_904 : decode cL_law 904 = .ok (.iload_n 3, 1) := by decide +kernel
theorem dL_law_905 : decode cL_law 905 = .ok (.iconst 2, 1) := by decide +kernel
theorem dL_law_906 : decode cL_law 906 = .ok (.iadd, 1) := by decide +kernel
theorem dL_law_907 : decode cL_law 907 = .ok (.iaload, 1) := by decide +kernel
theorem dL_law_908 : decode cL_law 908 = .ok (.invokevirtual 97, 3) := by decide +kernel
theorem dL_law_911 : decode cL_law 911 = .ok (.if_icmp .eq 251, 3) := by decide +kernel
theorem dL_law_914 : decode cL_law 914 = .ok (.iconst 0, 1) := by decide +kernel
theorem dL_law_915 : decode cL_law 915 = .ok (.ireturn, 1) := by decide +kernel
theorem dL_law_916 : decode cL_law 916 = .ok (.aload_n 1, 1) := by decide +kernel
theorem dL_law_917 : decode cL_law 917 = .ok (.aload_n 0, 1) := by decide +kernel
theorem dL_law_918 : decode cL_law 918 = .ok (.iload_n 3, 1) := by decide +kernel
theorem dL_law_919 : decode cL_law 919 = .ok (.iconst 1, 1) := by decide +kernel
theorem dL_law_920 : decode cL_law 920 = .ok (.iadd, 1) := by decide +kernel
theorem dL_law_921 : decode cL_law 921 = .ok (.iaload, 1) := by decide +kernel
theorem dL_law_922 : decode cL_law 922 = .ok (.invokevirtual 98, 3) := by decide +kernel
theorem dL_law_925 : decode cL_law 925 = .ok (.aload_n 2, 1) := by decide +kernel
theorem dL_law_926 : decode cL_law 926 = .ok (.aload_n 0, 1) := by decide +kernel
theorem dL_law_927 : decode cL_law 927 = .ok (.iload_n 3, 1) := by decide +kernel
theorem dL_law_928 : decode cL_law 928 = .ok (.iconst 1, 1) := by decide +kernel
theorem dL_law_929 : decode cL_law 929 = .ok (.iadd, 1) := by decide +kernel
theorem dL_law_930 : decode cL_law 930 = .ok (.iaload, 1) := by decide +kernel
theorem dL_law_931 : decode cL_law 931 = .ok (.invokevirtual 101, 3) := by decide +kernel
theorem dL_law_934 : decode cL_law 934 = .ok (.if_icmp .eq 228, 3) := by decide +kernel
theorem dL_law_937 : decode cL_law 937 = .ok (.iconst 0, 1) := by decide +kernel
theorem dL_law_938 : decode cL_law 938 = .ok (.ireturn, 1) := by decide +kernel
theorem dL_law_939 : decode cL_law 939 = .ok (.aload_n 1, 1) := by decide +kernel
theorem dL_law_940 : decode cL_law 940 = .ok (.aload_n 0, 1) := by decide +kernel
theorem dL_law_941 : decode cL_law 941 = .ok (.iload_n 3, 1) := by decide +kernel
theorem dL_law_942 : decode cL_law 942 = .ok (.iconst 1, 1) := by decide +kernel
theorem dL_law_943 : decode cL_law 943 = .ok (.iadd, 1) := by decide +kernel
theorem dL_law_944 : decode cL_law 944 = .ok (.iaload, 1) := by decide +kernel
theorem dL_law_945 : decode cL_law 945 = .ok (.invokevirtual 102, 3) := by decide +kernel
theorem dL_law_948 : decode cL_law 948 = .ok (.aload_n 2, 1) := by decide +kernel
theorem dL_law_949 : decode cL_law 949 = .ok (.aload_n 0, 1) := by decide +kernel
theorem dL_law_950 : decode cL_law 950 = .ok (.iload_n 3, 1) := by decide +kernel
theorem dL_law_951 : decode cL_law 951 = .ok (.iconst 1, 1) := by decide +kernel
theorem dL_law_952 : decode cL_law 952 = .ok (.iadd, 1) := by decide +kernel
theorem dL_law_953 : decode cL_law 953 = .ok (.iaload, 1) := by decide +kernel
theorem dL_law_954 : decode cL_law 954 = .ok (.invokevirtual 105, 3) := by decide +kernel
theorem dL_law_957 : decode cL_law 957 = .ok (.if_icmp .eq 205, 3) := by decide +kernel
theorem dL_law_960 : decode cL_law 960 = .ok (.iconst 0, 1) := by decide +kernel
theorem dL_law_961 : decode cL_law 961 = .ok (.ireturn, 1) := by decide +kernel
theorem dL_law_962 : decode cL_law 962 = .ok (.aload_n 1, 1) := by decide +kernel
theorem dL_law_963 : decode cL_law 963 = .ok (.invokevirtual 106, 3) := by decide +kernel
theorem dL_law_966 : decode cL_law 966 = .ok (.aload_n 2, 1) := by decide +kernel
theorem dL_law_967 : decode cL_law 967 = .ok (.invokevirtual 109, 3) := by decide +kernel
theorem dL_law_970 : decode cL_law 970 = .ok (.if_icmp .eq 192, 3) := by decide +kernel
theorem dL_law_973 : decode cL_law 973 = .ok (.iconst 0, 1) := by decide +kernel
theorem dL_law_974 : decode cL_law 974 = .ok (.ireturn, 1) := by decide +kernel
theorem dL_law_975 : decode cL_law 975 = .ok (.aload_n 1, 1) := by decide +kernel
theorem dL_law_976 : decode cL_law 976 = .ok (.aload_n 0, 1) := by decide +kernel
theorem dL_law_977 : decode cL_law 977 = .ok (.iload_n 3, 1) := by decide +kernel
theorem dL_law_978 : decode cL_law 978 = .ok (.iconst 1, 1) := by decide +kernel
theorem dL_law_979 : decode cL_law 979 = .ok (.iadd, 1) := by decide +kernel
theorem dL_law_980 : decode cL_law 980 = .ok (.iaload, 1) := by decide +kernel
theorem dL_law_981 : decode cL_law 981 = .ok (.aload_n 0, 1) := by decide +kernel
theorem dL_law_982 : decode cL_law 982 = .ok (.iload_n 3, 1) := by decide +kernel
theorem dL_law_983 : decode cL_law 983 = .ok (.iconst 2, 1) := by decide +kernel
theorem dL_law_984 : decode cL_law 984 = .ok (.iadd, 1) := by decide +kernel
theorem dL_law_985 : decode cL_law 985 = .ok (.iaload, 1) := by decide +kernel
theorem dL_law_986 : decode cL_law 986 = .ok (.invokevirtual 110, 3) := by decide +kernel
theorem dL_law_989 : decode cL_law 989 = .ok (.aload_n 2, 1) := by decide +kernel
theorem dL_law_990 : decode cL_law 990 = .ok (.aload_n 0, 1) := by decide +kernel
theorem dL_law_991 : decode cL_law 991 = .ok (.iload_n 3, 1) := by decide +kernel
theorem dL_law_992 : decode cL_law 992 = .ok (.iconst 1, 1) := by decide +kernel
theorem dL_law_993 : decode cL_law 993 = .ok (.iadd, 1) := by decide +kernel
theorem dL_law_994 : decode cL_law 994 = .ok (.iaload, 1) := by decide +kernel
theorem dL_law_995 : decode cL_law 995 = .ok (.aload_n 0, 1) := by decide +kernel
theorem dL_law_996 : decode cL_law 996 = .ok (.iload_n 3, 1) := by decide +kernel
theorem dL_law_997 : decode cL_law 997 = .ok (.iconst 2, 1) := by decide +kernel
theorem dL_law_998 : decode cL_law 998 = .ok (.iadd, 1) := by decide +kernel
theorem dL_law_999 : decode cL_law 999 = .ok (.iaload, 1) := by decide +kernel
theorem dL_law_1000 : decode cL_law 1000 = .ok (.invokevirtual 113, 3) := by decide +kernel
theorem dL_law_1003 : decode cL_law 1003 = .ok (.if_icmp .eq 159, 3) := by decide +kernel
theorem dL_law_1006 : decode cL_law 1006 = .ok (.iconst 0, 1) := by decide +kernel
theorem dL_law_1007 : decode cL_law 1007 = .ok (.ireturn, 1) := by decide +kernel
theorem dL_law_1008 : decode cL_law 1008 = .ok (.aload_n 1, 1) := by decide +kernel
theorem dL_law_1009 : decode cL_law 1009 = .ok (.aload_n 0, 1) := by decide +kernel
theorem dL_law_1010 : decode cL_law 1010 = .ok (.iload_n 3, 1) := by decide +kernel
theorem dL_law_1011 : decode cL_law 1011 = .ok (.iconst 1, 1) := by decide +kernel
theorem dL_law_1012 : decode cL_law 1012 = .ok (.iadd, 1) := by decide +kernel
theorem dL_law_1013 : decode cL_law 1013 = .ok (.iaload, 1) := by decide +kernel
theorem dL_law_1014 : decode cL_law 1014 = .ok (.invokevirtual 114, 3) := by decide +kernel
theorem dL_law_1017 : decode cL_law 1017 = .ok (.aload_n 2, 1) := by decide +kernel
theorem dL_law_1018 : decode cL_law 1018 = .ok (.aload_n 0, 1) := by decide +kernel
theorem dL_law_1019 : decode cL_law 1019 = .ok (.iload_n 3, 1) := by decide +kernel
theorem dL_law_1020 : decode cL_law 1020 = .ok (.iconst 1, 1) := by decide +kernel
theorem dL_law_1021 : decode cL_law 1021 = .ok (.iadd, 1) := by decide +kernel
theorem dL_law_1022 : decode cL_law 1022 = .ok (.iaload, 1) := by decide +kernel
theorem dL_law_1023 : decode cL_law 1023 = .ok (.invokevirtual 117, 3) := by decide +kernel
theorem dL_law_1026 : decode cL_law 1026 = .ok (.if_icmp .eq 136, 3) := by decide +kernel
theorem dL_law_1029 : decode cL_law 1029 = .ok (.iconst 0, 1) := by decide +kernel
theorem dL_law_1030 : decode cL_law 1030 = .ok (.ireturn, 1) := by decide +kernel
theorem dL_law_1031 : decode cL_law 1031 = .ok (.aload_n 1, 1) := by decide +kernel
theorem dL_law_1032 : decode cL_law 1032 = .ok (.aload_n 0, 1) := by decide +kernel
theorem dL_law_1033 : decode cL_law 1033 = .ok (.iload_n 3, 1) := by decide +kernel
theorem dL_law_1034 : decode cL_law 1034 = .ok (.iconst 1, 1) := by decide +kernel
theorem dL_law_1035 : decode cL_law 1035 = .ok (.iadd, 1) := by decide +kernel
theorem dL_law_1036 : decode cL_law 1036 = .ok (.iaload, 1) := by decide +kernel
theorem dL_law_1037 : decode cL_law 1037 = .ok (.invokevirtual 118, 3) := by decide +kernel
theorem dL_law_1040 : decode cL_law 1040 = .ok (.aload_n 2, 1) := by decide +kernel
theorem dL_law_1041 : decode cL_law 1041 = .ok (.aload_n 0, 1) := by decide +kernel
theorem dL_law_1042 : decode cL_law 1042 = .ok (.iload_n 3, 1) := by decide +kernel
theorem dL_law_1043 : decode cL_law 1043 = .ok (.iconst 1, 1) := by decide +kernel
theorem dL_law_1044 : decode cL_law 1044 = .ok (.iadd, 1) := by decide +kernel
theorem dL_law_1045 : decode cL_law 1045 = .ok (.iaload, 1) := by decide +kernel
theorem dL_law_1046 : decode cL_law 1046 = .ok (.invokevirtual 121, 3) := by decide +kernel
theorem dL_law_1049 : decode cL_law 1049 = .ok (.if_icmp .eq 113, 3) := by decide +kernel
theorem dL_law_1052 : decode cL_law 1052 = .ok (.iconst 0, 1) := by decide +kernel
theorem dL_law_1053 : decode cL_law 1053 = .ok (.ireturn, 1) := by decide +kernel
theorem dL_law_1054 : decode cL_law 1054 = .ok (.aload_n 1, 1) := by decide +kernel
theorem dL_law_1055 : decode cL_law 1055 = .ok (.aload_n 0, 1) := by decide +kernel
theorem dL_law_1056 : decode cL_law 1056 = .ok (.iload_n 3, 1) := by decide +kernel
theorem dL_law_1057 : decode cL_law 1057 = .ok (.iconst 1, 1) := by decide +kernel
theorem dL_law_1058 : decode cL_law 1058 = .ok (.iadd, 1) := by decide +kernel
theorem dL_law_1059 : decode cL_law 1059 = .ok (.iaload, 1) := by decide +kernel
theorem dL_law_1060 : decode cL_law 1060 = .ok (.invokevirtual 122, 3) := by decide +kernel
theorem dL_law_1063 : decode cL_law 1063 = .ok (.aload_n 2, 1) := by decide +kernel
theorem dL_law_1064 : decode cL_law 1064 = .ok (.aload_n 0, 1) := by decide +kernel
theorem dL_law_1065 : decode cL_law 1065 = .ok (.iload_n 3, 1) := by decide +kernel
theorem dL_law_1066 : decode cL_law 1066 = .ok (.iconst 1, 1) := by decide +kernel
theorem dL_law_1067 : decode cL_law 1067 = .ok (.iadd, 1) := by decide +kernel
theorem dL_law_1068 : decode cL_law 1068 = .ok (.iaload, 1) := by decide +kernel
theorem dL_law_1069 : decode cL_law 1069 = .ok (.invokevirtual 125, 3) := by decide +kernel
theorem dL_law_1072 : decode cL_law 1072 = .ok (.if_icmp .eq 90, 3) := by decide +kernel
theorem dL_law_1075 : decode cL_law 1075 = .ok (.iconst 0, 1) := by decide +kernel
theorem dL_law_1076 : decode cL_law 1076 = .ok (.ireturn, 1) := by decide +kernel
theorem dL_law_1077 : decode cL_law 1077 = .ok (.aload_n 1, 1) := by decide +kernel
theorem dL_law_1078 : decode cL_law 1078 = .ok (.invokevirtual 126, 3) := by decide +kernel
theorem dL_law_1081 : decode cL_law 1081 = .ok (.aload_n 2, 1) := by decide +kernel
theorem dL_law_1082 : decode cL_law 1082 = .ok (.invokevirtual 129, 3) := by decide +kernel
theorem dL_law_1085 : decode cL_law 1085 = .ok (.if_icmp .eq 77, 3) := by decide +kernel
theorem dL_law_1088 : decode cL_law 1088 = .ok (.iconst 0, 1) := by decide +kernel
theorem dL_law_1089 : decode cL_law 1089 = .ok (.ireturn, 1) := by decide +kernel
theorem dL_law_1090 : decode cL_law 1090 = .ok (.aload_n 1, 1) := by decide +kernel
theorem dL_law_1091 : decode cL_law 1091 = .ok (.aload_n 0, 1) := by decide +kernel
theorem dL_law_1092 : decode cL_law 1092 = .ok (.iload_n 3, 1) := by decide +kernel
theorem dL_law_1093 : decode cL_law 1093 = .ok (.iconst 1, 1) := by decide +kernel
theorem dL_law_1094 : decode cL_law 1094 = .ok (.iadd, 1) := by decide +kernel
theorem dL_law_1095 : decode cL_law 1095 = .ok (.iaload, 1) := by decide +kernel
theorem dL_law_1096 : decode cL_law 1096 = .ok (.invokevirtual 130, 3) := by decide +kernel
theorem dL_law_1099 : decode cL_law 1099 = .ok (.aload_n 2, 1) := by decide +kernel
theorem dL_law_1100 : decode cL_law 1100 = .ok (.aload_n 0, 1) := by decide +kernel
theorem dL_law_1101 : decode cL_law 1101 = .ok (.iload_n 3, 1) := by decide +kernel
theorem dL_law_1102 : decode cL_law 1102 = .ok (.iconst 1, 1) := by decide +kernel
theorem dL_law_1103 : decode cL_law 1103 = .ok (.iadd, 1) := by decide +kernel
theorem dL_law_1104 : decode cL_law 1104 = .ok (.iaload, 1) := by decide +kernel
theorem dL_law_1105 : decode cL_law 1105 = .ok (.invokevirtual 133, 3) := by decide +kernel
theorem dL_law_1108 : decode cL_law 1108 = .ok (.if_icmp .eq 54, 3) := by decide +kernel
theorem dL_law_1111 : decode cL_law 1111 = .ok (.iconst 0, 1) := by decide +kernel
theorem dL_law_1112 : decode cL_law 1112 = .ok (.ireturn, 1) := by decide +kernel
theorem dL_law_1113 : decode cL_law 1113 = .ok (.aload_n 1, 1) := by decide +kernel
theorem dL_law_1114 : decode cL_law 1114 = .ok (.invokevirtual 134, 3) := by decide +kernel
theorem dL_law_1117 : decode cL_law 1117 = .ok (.aload_n 2, 1) := by decide +kernel
theorem dL_law_1118 : decode cL_law 1118 = .ok (.invokevirtual 137, 3) := by decide +kernel
theorem dL_law_1121 : decode cL_law 1121 = .ok (.if_icmp .eq 41, 3) := by decide +kernel
theorem dL_law_1124 : decode cL_law 1124 = .ok (.iconst 0, 1) := by decide +kernel
theorem dL_law_1125 : decode cL_law 1125 = .ok (.ireturn, 1) := by decide +kernel
theorem dL_law_1126 : decode cL_law 1126 = .ok (.aload_n 1, 1) := by decide +kernel
theorem dL_law_1127 : decode cL_law 1127 = .ok (.aload_n 0, 1) := by decide +kernel
theorem dL_law_1128 : decode cL_law 1128 = .ok (.iload_n 3, 1) := by decide +kernel
theorem dL_law_1129 : decode cL_law 1129 = .ok (.iconst 1, 1) := by decide +kernel
theorem dL_law_1130 : decode cL_law 1130 = .ok (.iadd, 1) := by decide +kernel
theorem dL_law_1131 : decode cL_law 1131 = .ok (.iaload, 1) := by decide +kernel
theorem dL_law_1132 : decode cL_law 1132 = .ok (.invokevirtual 138, 3) := by decide +kernel
theorem dL_law_1135 : decode cL_law 1135 = .ok (.aload_n 2, 1) := by decide +kernel
theorem dL_law_1136 : decode cL_law 1136 = .ok (.aload_n 0, 1) := by decide +kernel
theorem dL_law_1137 : decode cL_law 1137 = .ok (.iload_n 3, 1) := by decide +kernel
theorem dL_law_1138 : decode cL_law 1138 = .ok (.iconst 1, 1) := by decide +kernel
theorem dL_law_1139 : decode cL_law 1139 = .ok (.iadd, 1) := by decide +kernel
theorem dL_law_1140 : decode cL_law 1140 = .ok (.iaload, 1) := by decide +kernel
theorem dL_law_1141 : decode cL_law 1141 = .ok (.invokevirtual 141, 3) := by decide +kernel
theorem dL_law_1144 : decode cL_law 1144 = .ok (.if_icmp .eq 18, 3) := by decide +kernel
theorem dL_law_1147 : decode cL_law 1147 = .ok (.iconst 0, 1) := by decide +kernel
theorem dL_law_1148 : decode cL_law 1148 = .ok (.ireturn, 1) := by decide +kernel
theorem dL_law_1149 : decode cL_law 1149 = .ok (.aload_n 1, 1) := by decide +kernel
theorem dL_law_1150 : decode cL_law 1150 = .ok (.invokevirtual 142, 3) := by decide +kernel
theorem dL_law_1153 : decode cL_law 1153 = .ok (.aload_n 2, 1) := by decide +kernel
theorem dL_law_1154 : decode cL_law 1154 = .ok (.invokevirtual 145, 3) := by decide +kernel
theorem dL_law_1157 : decode cL_law 1157 = .ok (.if_icmp .eq 5, 3) := by decide +kernel
theorem dL_law_1160 : decode cL_law 1160 = .ok (.iconst 0, 1) := by decide +kernel
theorem dL_law_1161 : decode cL_law 1161 = .ok (.ireturn, 1) := by decide +kernel
theorem dL_law_1162 : decode cL_law 1162 = .ok (.iinc 3 5, 3) := by decide +kernel
theorem dL_law_1165 : decode cL_law 1165 = .ok (.goto (-1147), 3) := by decide +kernel
theorem dL_law_1168 : decode cL_law 1168 = .ok (.iconst 1, 1) := by decide +kernel
theorem dL_law_1169 : decode cL_law 1169 = .ok (.ireturn, 1) := by decide +kernel
end
section
/-! ===== THE STATE: one flat memory for class and reference ===== -/
abbrev Mu : Type := (Nat → Nat → Int32) × (Nat → Nat → Int64) × (Nat → Nat)
abbrev En : Type := (Nat → Nat) × va_G × (Nat → ClassId)
def upM (M : Nat → Nat → Int32) (c k : Nat) (v : Int32) : Nat → Nat → Int32 := fun c' k' => if c' = c ∧ k' = k then v else M c' k'
def upJ (J : Nat → Nat → Int64) (c k : Nat) (v : Int64) : Nat → Nat → Int64 := fun c' k' => if c' = c ∧ k' = k then v else J c' k'
def pM (μ : Mu) (c k : Nat) (v : Int32) : Mu := (upM μ.1 c k v, μ.2)
def pJ (μ : Mu) (c k : Nat) (v : Int64) : Mu := (μ.1, upJ μ.2.1 c k v, μ.2.2)
def pK (μ : Mu) (k v : Nat) : Mu := (μ.1, μ.2.1, va_up μ.2.2 k v)
theorem upM_s (M : Nat → Nat → Int32) (c k : Nat) (v : Int32) : upM M c k v c k = v := by simp [upM]
theorem upM_k (M : Nat → Nat → Int32) {c k c' k' : Nat} (v : Int32) (h : k' ≠ k) : upM M c k v c' k' = M c' k' := by simp [upM, h]
theorem upM_c (M : Nat → Nat → Int32) {c k c' k' : Nat} (v : Int32) (h : c' ≠ c) : upM M c k v c' k' = M c' k' := by simp [upM, h]
theorem upM_r (M : Nat → Nat → Int32) {c k c' : Nat} (v : Int32) (h : c' ≠ c) : upM M c k v c' = M c' := by funext x; simp [upM, h]
theorem upJ_s (M : Nat → Nat → Int64) (c k : Nat) (v : Int64) : upJ M c k v c k = v := by simp [upJ]
theorem upJ_k (M : Nat → Nat → Int64) {c k c' k' : Nat} (v : Int64) (h : k' ≠ k) : upJ M c k v c' k' = M c' k' := by simp [upJ, h]
theorem upJ_c (M : Nat → Nat → Int64) {c k c' k' : Nat} (v : Int64) (h : c' ≠ c) : upJ M c k v c' k' = M c' k' := by simp [upJ, h]
/-- a row's first n cells -/
def tr (n : Nat) (f : Nat → Int32) : Nat → Int32 := fun y => if y < n then f y else 0
theorem tr_lt {n : Nat} {f : Nat → Int32} {y : Nat} (h : y < n) : tr n f y = f y := by simp [tr, h]
theorem tr_congr {n : Nat} {f g : Nat → Int32} (h : ∀ y, y < n → f y = g y) : tr n f = tr n g := by
  funext y
  unfold tr
  by_cases hy : y < n
  · rw [if_pos hy, if_pos hy, h y hy]
  · rw [if_neg hy, if_neg hy]
theorem tr_upd {n : Nat} {f : Nat → Int32} {k : Nat} {v : Int32} (h : k < n) : upd (tr n f) k v = tr n (fun y => if y = k then v else f y) := by
  funext y
  unfold upd tr
  by_cases hy : y = k
  · subst hy; simp [h]
  · simp [hy]
/-- the cells: 240 ids; of each its kind, the row of the memory that it shows, where it begins there, how many -/
def tbS (o : Nat) : Nat × Nat × Nat :=
  if o = 0 then (0, 0, 3) else if o = 1 then (1, 3, 0) else if o = 2 then (2, 3, 0) else if o = 3 then (3, 3, 7)
  else if o < 13 then (if (o - 4) % 3 = 0 then (4, 10 + 25 * ((o - 4) / 3), 1) else if (o - 4) % 3 = 1 then (3, 11 + 25 * ((o - 4) / 3), 12) else (3, 23 + 25 * ((o - 4) / 3), 12))
  else (if (o - 13) % 4 = 0 then (5, 85 + 28 * ((o - 13) / 4), 12) else if (o - 13) % 4 = 1 then (3, 97 + 28 * ((o - 13) / 4), 4) else if (o - 13) % 4 = 2 then (3, 101 + 28 * ((o - 13) / 4), 3) else (3, 104 + 28 * ((o - 13) / 4), 9))
def tb (i : Nat) : Nat × Nat × Nat × Nat :=
  if i < 222 then ((tbS (i % 37)).1, i / 37, (tbS (i % 37)).2.1, (tbS (i % 37)).2.2)
  else if i = 222 then (6, 6, 0, 1) else if i = 223 then (7, 6, 1, 0) else if i = 224 then (8, 6, 1, 2) else if i = 225 then (9, 6, 3, 0)
  else if i = 226 then (9, 6, 3, 0) else if i = 227 then (9, 6, 3, 0) else if i = 228 then (10, 6, 3, 5) else if i = 229 then (11, 6, 8, 60)
  else if i = 230 then (3, 6, 68, 9) else if i = 231 then (12, 6, 77, 3) else if i = 232 then (13, 7, 0, 4) else if i = 233 then (3, 8, 0, 259)
  else if i = 234 then (3, 9, 0, 1036) else if i = 235 then (3, 10, 0, 259) else if i = 236 then (3, 11, 0, 259) else if i = 237 then (11, 12, 0, 60)
  else if i = 238 then (3, 13, 0, 2) else (3, 14, 0, 9)
/-- a cell of a kind: f its ints, g its longs, K the kept states' places -/
def cellK (E : En) (f : Nat → Int32) (g : Nat → Int64) (K : Nat → Nat) (i n : Nat) (k : Nat) : va_E := match k with
  | 0 => .inr (4, [.int (f 0), .int (f 1), .int (f 2), .ref (E.1 (i + 1)), .ref (E.1 (i + 2)), .ref (E.1 (i + 3))])
  | 1 => .inl (E.2.2 2, 3, .inr (.inr (.inr (.inr (fun y => if y < 3 then some (E.1 (i + 3 + 3 * y)) else none)))))
  | 2 => .inl (E.2.2 3, 6, .inr (.inr (.inr (.inr (fun y => if y < 6 then some (E.1 (i + 11 + 4 * y)) else none)))))
  | 3 => .inl (E.2.2 0, n, .inl f)
  | 4 => .inr (5, [.int (f 0), .ref (E.1 (i + 1)), .ref (E.1 (i + 2))])
  | 5 => .inr (3, [.int (f 0), .int (f 1), .int (f 2), .int (f 3), .int (f 4), .int (f 5), .int (f 6), .int (f 7), .int (f 8), .int (f 9), .int (f 10), .int (f 11), .ref (E.1 (i + 1)), .ref (E.1 (i + 2)), .ref (E.1 (i + 3))])
  | 6 => .inr (0, [.int (f 0), .ref (E.1 223)])
  | 7 => .inl (E.2.2 4, 4, .inr (.inr (.inr (.inr (fun y => if y < 4 then some (E.1 (37 * K y)) else none)))))
  | 8 => .inr (2, [.ref (E.1 225), .ref (E.1 226), .long (g 0), .int (f 0), .int (f 1)])
  | 9 => .inr (1, [.long (g 0), .long (g 1), .long (g 2), .long (g 3), .long (g 4), .long (g 5), .long (g 6), .long (g 7), .long (g 8), .long (g 9), .long (g 10)])
  | 10 => .inr (6, [.int (f 0), .int (f 1), .int (f 2), .int (f 3), .int (f 4), .ref (E.1 229)])
  | 11 => .inl (E.2.2 1, n, .inl f)
  | 12 => .inr (7, [.ref (E.1 0), .ref (E.1 37), .ref (E.1 222), .ref (E.1 224), .ref (E.1 227), .ref (E.1 228), .ref (E.1 230), .int (f 0), .int (f 1), .int (f 2)])
  | _ => .inr (8, [.ref (E.1 233), .ref (E.1 234), .ref (E.1 235), .ref (E.1 236), .int (f 0), .ref (E.1 237), .int (f 1), .int (f 2), .int (f 3), .ref (E.1 238), .ref (E.1 239)])
def jRow (i : Nat) : Nat := if i = 224 then 3 else i - 225
def jOf (J : Nat → Nat → Int64) (i : Nat) : Nat → Int64 := if 224 ≤ i ∧ i < 228 then J (jRow i) else fun _ => 0
def kOf (K : Nat → Nat) (i : Nat) : Nat → Nat := if i = 223 then K else fun _ => 0
def cell (E : En) (μ : Mu) (i : Nat) : va_E := cellK E (tr (tb i).2.2.2 (fun y => μ.1 (tb i).2.1 ((tb i).2.2.1 + y))) (jOf μ.2.1 i) (kOf μ.2.2 i) i (tb i).2.2.2 (tb i).1
def wsA (E : En) (μ : Mu) : va_W := (List.range 240).map (fun i => (E.1 i, cell E μ i))
abbrev tysE (E : En) : List (ClassId × FieldType) := [(E.2.2 0, .int), (E.2.2 1, .char), (E.2.2 2, .object "OhmBridge$Table"), (E.2.2 3, .object "OhmBridge$Sensor"), (E.2.2 4, .object "OhmBridge$State")]
def inE (E : En) : Nat → Prop := fun q => ∃ i, i < 240 ∧ q = E.1 i
/-- the world, at a state -/
def WdU (E : En) (μ : Mu) (U : State) : Prop := va_P E.2.1 vwCl (wsA E μ) U.heap ∧ va_K E.2.1 vwCl (tysE E) U ∧ va_D (inE E) (wsA E μ)
theorem wsA_at (E : En) (μ : Mu) {i : Nat} (h : i < 240) : (wsA E μ)[i]? = some (E.1 i, cell E μ i) := by
  unfold wsA
  rw [List.getElem?_map, List.getElem?_range h]
  rfl
theorem wsA_len (E : En) (μ : Mu) : (wsA E μ).length = 240 := by simp [wsA]
theorem wsA_set (E : En) (μ μ' : Mu) {i : Nat} {e : va_E} (hi : i < 240) (he : e = cell E μ' i) (h : ∀ k, k < 240 → k ≠ i → cell E μ k = cell E μ' k) : (wsA E μ).set i (E.1 i, e) = wsA E μ' := by
  apply List.ext_getElem?
  intro j
  by_cases hj : j < 240
  · rw [wsA_at E μ' hj]
    by_cases hji : j = i
    · subst hji
      rw [List.getElem?_set_self (by rw [wsA_len]; exact hj), he]
    · rw [List.getElem?_set_ne (fun q => hji q.symm), wsA_at E μ hj, h j hj hji]
  · rw [List.getElem?_eq_none (by rw [List.length_set, wsA_len]; omega), List.getElem?_eq_none (by rw [wsA_len]; omega)]
theorem wsA_D {E : En} {A : Nat → Prop} {μ : Mu} (μ' : Mu) (h : va_D A (wsA E μ)) : va_D A (wsA E μ') := by
  have key : ∀ (k : Nat) (q : Nat × va_E), (wsA E μ')[k]? = some q → k < 240 ∧ q.1 = E.1 k := by
    intro k q hk
    have hl : k < 240 := by
      have := (List.getElem?_eq_some_iff.mp hk).1
      rwa [wsA_len] at this
    rw [wsA_at E μ' hl] at hk
    cases hk
    exact ⟨hl, rfl⟩
  refine ⟨fun i j x y hx hy hxy => ?_, fun k q hk => ?_⟩
  · obtain ⟨h1, h2⟩ := key i x hx
    obtain ⟨h3, h4⟩ := key j y hy
    exact h.1 i j _ _ (wsA_at E μ h1) (wsA_at E μ h3) (by rw [← h2, ← h4]; exact hxy)
  · obtain ⟨h1, h2⟩ := key k q hk
    rw [h2]
    exact h.2 k _ (wsA_at E μ h1)
/-- the rows that the cells show lie one behind another -/
def tbF (i : Nat) : Nat := 2000 * (tb i).2.1 + (tb i).2.2.1
theorem tb_step : ∀ i, i < 239 → tbF i + (tb i).2.2.2 ≤ tbF (i + 1) := by decide +kernel
theorem tb_apart {i : Nat} : ∀ d : Nat, i + d + 1 < 240 → tbF i + (tb i).2.2.2 ≤ tbF (i + d + 1)
  | 0, h => tb_step i (by omega)
  | d + 1, h => by
    have h1 := tb_apart (i := i) d (by omega)
    have h2 := tb_step (i + d + 1) (by omega)
    have h3 : i + (d + 1) + 1 = i + d + 1 + 1 := by omega
    rw [h3]
    omega
theorem tb_out {i k x : Nat} (hi : i < 240) (hk : k < 240) (h : k ≠ i) (hx : (tb i).2.2.1 ≤ x) (hx2 : x < (tb i).2.2.1 + (tb i).2.2.2) {y : Nat} (hy : y < (tb k).2.2.2) : ¬ ((tb k).2.1 = (tb i).2.1 ∧ (tb k).2.2.1 + y = x) := by
  rintro ⟨h1, h2⟩
  rcases Nat.lt_or_gt_of_ne h with q | q
  · have := tb_apart (i := k) (i - k - 1) (by omega)
    rw [show k + (i - k - 1) + 1 = i by omega] at this
    unfold tbF at this
    omega
  · have := tb_apart (i := i) (k - i - 1) (by omega)
    rw [show i + (k - i - 1) + 1 = k by omega] at this
    unfold tbF at this
    omega
/-- a write into the row of one cell leaves the others -/
theorem cell_M (E : En) (μ : Mu) {i k x : Nat} {v : Int32} (hi : i < 240) (hk : k < 240) (h : k ≠ i) (hx : (tb i).2.2.1 ≤ x) (hx2 : x < (tb i).2.2.1 + (tb i).2.2.2) : cell E μ k = cell E (pM μ (tb i).2.1 x v) k := by
  unfold cell
  congr 1
  apply tr_congr
  intro y hy
  have := tb_out hi hk h hx hx2 hy
  simp only [pM, upM, if_neg this]
theorem cell_J (E : En) (μ : Mu) {k r x : Nat} {v : Int64} (h : ∀ y, jOf μ.2.1 k y = jOf (upJ μ.2.1 r x v) k y) : cell E μ k = cell E (pJ μ r x v) k := by
  unfold cell
  rw [show jOf μ.2.1 k = jOf (pJ μ r x v).2.1 k from funext h]
  rfl
theorem wsA_pM (E : En) (μ : Mu) {i x : Nat} {v : Int32} {e : va_E} (hi : i < 240) {c : Nat} (hc : (tb i).2.1 = c) (hx : (tb i).2.2.1 ≤ x) (hx2 : x < (tb i).2.2.1 + (tb i).2.2.2) (he : e = cell E (pM μ c x v) i) : (wsA E μ).set i (E.1 i, e) = wsA E (pM μ c x v) := by
  subst hc
  exact wsA_set E μ _ hi he (fun k hk h => cell_M E μ hi hk h hx hx2)
end
section
/-! ===== ROWS: the world at a walk, one row an instruction, one a call ===== -/
def Wk (E : En) (μ : Mu) (s : State) (H : Heap) (locs : List Loc) : Prop := va_P E.2.1 vwCl (wsA E μ) H ∧ va_K E.2.1 vwCl (tysE E) s ∧ va_D (inE E) (wsA E μ) ∧ va_S (inE E) s.heap H locs
theorem WdU_Wk {E : En} {μ : Mu} {s : State} (h : WdU E μ s) : Wk E μ s s.heap [] := ⟨h.1, h.2.1, h.2.2, va_S.rf⟩
theorem WdU_blind {E : En} {μ : Mu} {U : State} {g : JFrame} {mk : MethodId} {a : Array Value} (h : WdU E μ U) : WdU E μ (U.calling g mk a) := ⟨h.1, va_K.moved (u := U) (U := U.calling g mk a) (Vm.Alike.refl U.vm) h.2.1, h.2.2⟩
/-- a call's pre, out of the walk's world -/
theorem Wk_U {E : En} {μ : Mu} {s U : State} {H : Heap} {locs : List Loc} (h : Wk E μ s H locs) (hU : U.heap = H) (hW : s.WarmedH U.vm) : WdU E μ U := ⟨by rw [hU]; exact h.1, va_K.moved hW.alike h.2.1, h.2.2.1⟩
theorem Wk_back {E : En} {μ μ' : Mu} {s t : State} {H H1 : Heap} {locs locs1 : List Loc} (h : Wk E μ s H locs) (ht : t.heap = H1) (hB : WdU E μ' t) (hS : va_S (inE E) s.heap H1 locs1) : Wk E μ' s H1 locs1 := ⟨by rw [← ht]; exact hB.1, h.2.1, hB.2.2, hS⟩
section RW
variable {p : Program} {l : Launch} {e : Env} {R : Room} {s : State} {m : MethodId} {args : Array Value} {below : List Frame} {meth : Method} {c : Code} {H : Heap} {locs : List Loc} {cells slots : Nat} {Q : State → Prop}
variable {cc : ByteArray} {pc nL : Nat} {ls : Array Slot} {rest : List Value} {E : En} {μ : Mu} {own : String}
theorem g_f (hw : Wk E μ s H locs) (hf : CallFix p m c cc nL s args wsL_law own) {i : Nat} (hi : i < 240) {ci : Nat} {fs : List Value} (hc : cell E μ i = .inr (ci, fs)) {C : String} {T : u_T} {N : Nat} (hcl : vwCl[ci]? = some (C, T, N)) (hin : ∀ w ∈ u_ws C T N, w ∈ wsL_law) (k : Nat) (hk : k < N) {ref : String} {index : Nat} (href : (T k).1 = ref) (hlink : Cond.fieldLink own index ref (T k).2.1 (T k).2.2.1 ∈ wsL_law) {v : Value} (hv : fs[k]? = some v) (hdg : decode cc pc = .ok (.getfield index, 3))
    (kk : W p l e R s m args below meth c H locs cells slots Q (F0 m (pc + 3) ls (v :: rest))) : W p l e R s m args below meth c H locs cells slots Q (F0 m pc ls (.ref (E.1 i) :: rest)) := by
  obtain ⟨hx, hb, -, hown, hts⟩ := hf
  subst href
  exact va_get (D := E.2.1) hx hb hts hin hown hw.2.1 hw.1 i ((wsA_at E μ hi).trans (by rw [hc])) hcl k hk (hts _ hlink) (fun _ h => h) hv hdg kk
theorem p_f (hw : Wk E μ s H locs) (hf : CallFix p m c cc nL s args wsL_law own) {i : Nat} (hi : i < 240) {ci : Nat} {fs : List Value} (hc : cell E μ i = .inr (ci, fs)) {C : String} {T : u_T} {N : Nat} (hcl : vwCl[ci]? = some (C, T, N)) (hin : ∀ w ∈ u_ws C T N, w ∈ wsL_law) {ty0 : Nat → FieldType} (hty : ∀ k, k < N → parseFieldDescriptor (T k).2.2.1 = some (ty0 k)) (hnm : ∀ a, a < N → ∀ b, b < N → a ≠ b → (T a).2.1 ≠ (T b).2.1) (k : Nat) (hk : k < N) {ref : String} {index : Nat} (href : (T k).1 = ref) (hlink : Cond.fieldLink own index ref (T k).2.1 (T k).2.2.1 ∈ wsL_law) (hfin : (T k).2.2.2 = false) {v : Value} (hn : narrow (ty0 k) v = v) (hfit : fits (ty0 k) v = true) (hl : k < fs.length) {μ' : Mu} (hset : (wsA E μ).set i (E.1 i, .inr (ci, fs.set k v)) = wsA E μ') (hdg : decode cc pc = .ok (.putfield index, 3))
    (kk : ∀ (H : Heap) (locs : List Loc), Wk E μ' s H locs → W p l e R s m args below meth c H locs cells slots Q (F0 m (pc + 3) ls rest)) : W p l e R s m args below meth c H locs cells slots Q (F0 m pc ls (v :: .ref (E.1 i) :: rest)) := by
  obtain ⟨hx, hb, -, hown, hts⟩ := hf
  subst href
  refine va_put (D := E.2.1) hx hb hts hin ty0 hty hnm hown hw.2.1 hw.1 hw.2.2.1 hw.2.2.2 i ((wsA_at E μ hi).trans (by rw [hc])) hcl k hk (hts _ hlink) (fun _ h => h) hfin (hty k hk) hn hfit hl hdg (fun H1 locs1 h1 h2 h3 => kk H1 locs1 ⟨?_, hw.2.1, wsA_D _ hw.2.2.1, h3⟩)
  rw [hset] at h1
  exact h1
theorem g_a (hw : Wk E μ s H locs) (hf : CallFix p m c cc nL s args wsL_law own) {i : Nat} (hi : i < 240) {N : Nat} {f : Nat → Int32} (hc : cell E μ i = .inl (E.2.2 0, N, .inl f)) {x v : Int32} (hin : vp_in x N) (hv : f x.toNatClampNeg = v) (hdg : decode cc pc = .ok (.iaload, 1))
    (kk : W p l e R s m args below meth c H locs cells slots Q (F0 m (pc + 1) ls (.int v :: rest))) : W p l e R s m args below meth c H locs cells slots Q (F0 m pc ls (.int x :: .ref (E.1 i) :: rest)) := by
  subst hv
  exact va_iald (D := E.2.1) hf.1 hf.2.1 hw.2.1 hw.1 i 0 ((wsA_at E μ hi).trans (by rw [hc])) rfl hin hdg kk
theorem g_c (hw : Wk E μ s H locs) (hf : CallFix p m c cc nL s args wsL_law own) {i : Nat} (hi : i < 240) {N : Nat} {f : Nat → Int32} (hc : cell E μ i = .inl (E.2.2 1, N, .inl f)) {x v : Int32} (hin : vp_in x N) (hv : f x.toNatClampNeg = v) (hdg : decode cc pc = .ok (.caload, 1))
    (kk : W p l e R s m args below meth c H locs cells slots Q (F0 m (pc + 1) ls (.int v :: rest))) : W p l e R s m args below meth c H locs cells slots Q (F0 m pc ls (.int x :: .ref (E.1 i) :: rest)) := by
  subst hv
  exact va_cald (D := E.2.1) hf.1 hf.2.1 hw.2.1 hw.1 i 1 ((wsA_at E μ hi).trans (by rw [hc])) rfl hin hdg kk
theorem g_q (hw : Wk E μ s H locs) (hf : CallFix p m c cc nL s args wsL_law own) {i : Nat} (hi : i < 240) {N t0 : Nat} {C : String} {cA : ClassId} {f : Nat → Option Nat} (hc : cell E μ i = .inl (cA, N, .inr (.inr (.inr (.inr f))))) (ht : (tysE E)[t0]? = some (cA, .object C)) {x : Int32} {v : Value} (hin : vp_in x N) (hv : va_rf (f x.toNatClampNeg) = v) (hdg : decode cc pc = .ok (.aaload, 1))
    (kk : W p l e R s m args below meth c H locs cells slots Q (F0 m (pc + 1) ls (v :: rest))) : W p l e R s m args below meth c H locs cells slots Q (F0 m pc ls (.int x :: .ref (E.1 i) :: rest)) := by
  subst hv
  exact va_aldq (D := E.2.1) hf.1 hf.2.1 hw.2.1 hw.1 i t0 ((wsA_at E μ hi).trans (by rw [hc])) ht hin hdg kk
theorem g_n (hw : Wk E μ s H locs) (hf : CallFix p m c cc nL s args wsL_law own) {i : Nat} (hi : i < 240) {N t0 : Nat} {ty : FieldType} {cA : ClassId} {x : Nat → Int32 ⊕ Int64} {a : vp_A} (hc : cell E μ i = .inl (cA, a)) (ht : (tysE E)[t0]? = some (cA, ty)) {v : Int32} (hv : Int32.ofNat a.1 = v) (hdg : decode cc pc = .ok (.arraylength, 1))
    (kk : W p l e R s m args below meth c H locs cells slots Q (F0 m (pc + 1) ls (.int v :: rest))) : W p l e R s m args below meth c H locs cells slots Q (F0 m pc ls (.ref (E.1 i) :: rest)) := by
  exact va_alen (D := E.2.1) hf.1 hf.2.1 hw.2.1 hw.1 i t0 ((wsA_at E μ hi).trans (by rw [hc])) ht hv hdg kk
theorem p_a (hw : Wk E μ s H locs) (hf : CallFix p m c cc nL s args wsL_law own) {i : Nat} (hi : i < 240) {N : Nat} {f : Nat → Int32} (hc : cell E μ i = .inl (E.2.2 0, N, .inl f)) {x v : Int32} (hin : vp_in x N) {μ' : Mu} (hset : (wsA E μ).set i (E.1 i, .inl (E.2.2 0, N, .inl (upd f x.toNatClampNeg v))) = wsA E μ') (hdg : decode cc pc = .ok (.iastore, 1))
    (kk : ∀ (H : Heap) (locs : List Loc), Wk E μ' s H locs → W p l e R s m args below meth c H locs cells slots Q (F0 m (pc + 1) ls rest)) : W p l e R s m args below meth c H locs cells slots Q (F0 m pc ls (.int v :: .int x :: .ref (E.1 i) :: rest)) := by
  refine va_iast (D := E.2.1) hf.1 hf.2.1 hw.2.1 hw.1 hw.2.2.1 hw.2.2.2 i 0 ((wsA_at E μ hi).trans (by rw [hc])) rfl hin hdg (fun H1 locs1 h1 h2 h3 => kk H1 locs1 ⟨?_, hw.2.1, wsA_D _ hw.2.2.1, h3⟩)
  rw [hset] at h1
  exact h1
theorem p_c (hw : Wk E μ s H locs) (hf : CallFix p m c cc nL s args wsL_law own) {i : Nat} (hi : i < 240) {N : Nat} {f : Nat → Int32} (hc : cell E μ i = .inl (E.2.2 1, N, .inl f)) {x v : Int32} (hv : vp_nar .char v = v) (hin : vp_in x N) {μ' : Mu} (hset : (wsA E μ).set i (E.1 i, .inl (E.2.2 1, N, .inl (upd f x.toNatClampNeg v))) = wsA E μ') (hdg : decode cc pc = .ok (.castore, 1))
    (kk : ∀ (H : Heap) (locs : List Loc), Wk E μ' s H locs → W p l e R s m args below meth c H locs cells slots Q (F0 m (pc + 1) ls rest)) : W p l e R s m args below meth c H locs cells slots Q (F0 m pc ls (.int v :: .int x :: .ref (E.1 i) :: rest)) := by
  refine va_cast (D := E.2.1) hf.1 hf.2.1 hw.2.1 hw.1 hw.2.2.1 hw.2.2.2 i 1 ((wsA_at E μ hi).trans (by rw [hc])) rfl hin hdg (fun H1 locs1 h1 h2 h3 => kk H1 locs1 ⟨?_, hw.2.1, wsA_D _ hw.2.2.1, h3⟩)
  rw [hv, hset] at h1
  exact h1
end RW
/-! contracts: the answer and the memory behind, as one pair -/
abbrev MtI (l : Launch) (y : MethodName) (cc : ByteArray) (n : Nat) (ret : FieldType) (rm : Room) (av : List Value) (E : En) (μ : Mu) (RU : Int32 × Mu) : Prop := Met l y (wsM y cc n (some ret)) rm (va_Pc av (WdU E μ)) (va_Qi (fun r u => r = RU.1 ∧ u = RU.2) (fun u t => WdU E u t) (inE E)) 0 0 (inE E)
abbrev MtL (l : Launch) (y : MethodName) (cc : ByteArray) (n : Nat) (rm : Room) (av : List Value) (E : En) (μ : Mu) (RU : Int64 × Mu) : Prop := Met l y (wsM y cc n (some .long)) rm (va_Pc av (WdU E μ)) (va_Ql (fun r u => r = RU.1 ∧ u = RU.2) (fun u t => WdU E u t) (inE E)) 0 0 (inE E)
abbrev MtV (l : Launch) (y : MethodName) (cc : ByteArray) (n : Nat) (rm : Room) (av : List Value) (E : En) (μ : Mu) (U : Mu) : Prop := Met l y (wsM y cc n none) rm (va_Pc av (WdU E μ)) (va_Qv (fun u => u = U) (fun u t => WdU E u t) (inE E)) 0 0 (inE E)
abbrev MtQ (l : Launch) (y : MethodName) (cc : ByteArray) (n : Nat) (ret : FieldType) (rm : Room) (av : List Value) (E : En) (μ : Mu) (r0 : Option Nat) : Prop := Met l y (wsM y cc n (some ret)) rm (va_Pc av (WdU E μ)) (va_Qq (fun r u => r = r0.map E.1 ∧ u = μ) (fun u t => WdU E u t) (inE E)) 0 0 (inE E)
section ST
variable {l : Launch} {E : En} {μ : Mu}
/-- what a body's walk has at its entry -/
abbrev Body (l : Launch) (y : MethodName) (cc : ByteArray) (n : Nat) (ret : Option FieldType) (rm : Room) (av : List Value) (E : En) (μ : Mu) (Qc : Array Value → State → Outcome → State → Prop) : Prop :=
  ∀ (p : Program) (e : Env) (s : State) (m : MethodId) (args : Array Value) (below : List Frame) (meth : Method) (c : Code) (ls : Array Slot), CallFix p m c cc n s args wsL_law y.cls → meth.sig.returnType = ret → meth.locks = false → lv_has ls n (lv_args 0 av) → Wk E μ s s.heap [] →
    W p l e rm s m args below meth c s.heap [] 0 0 (MQ below Qc args s 0 0 (inE E)) (F0 m 0 ls [])
theorem mt_of {y : MethodName} {cc : ByteArray} {n : Nat} {ret : Option FieldType} {rm : Room} {av : List Value} {Qc : Array Value → State → Outcome → State → Prop} (hy : plainName y.cls = true) (hlen : ((lg_sl av).length ≤ n)) (body : Body l y cc n ret rm av E μ Qc) : Met l y (wsM y cc n ret) rm (va_Pc av (WdU E μ)) Qc 0 0 (inE E) := by
  refine Met.ofW (cc := cc) (maxL := n) (ret := ret) hy rfl ?_
  intro p e s m args below meth c s₁ B hml hv
  obtain ⟨rfl, hw⟩ := hv
  have hts := atoms_spec (ws := wsM y cc n ret) B.pre
  have hown : s.vm.findClass y.cls = some m.cls := findClass_of_methodNamed B.named
  have hl := lv_entry av (n := n) hlen
  rw [lg_entry_eq]
  exact body p e s m _ below meth c _ ⟨B.exec, B.bytes, hml, hown, fun w h => hts w (List.mem_cons_of_mem _ h)⟩ B.returns B.notSynchronized hl (WdU_Wk hw)
end ST
section EN
variable {p : Program} {l : Launch} {e : Env} {R : Room} {s : State} {m : MethodId} {args : Array Value} {below : List Frame} {meth : Method} {c : Code} {H : Heap} {locs : List Loc}
variable {cc : ByteArray} {pc nL : Nat} {ls : Array Slot} {E : En} {μ : Mu} {own : String}
theorem e_i (hf : CallFix p m c cc nL s args wsL_law own) {ty : FieldType} (hr : meth.sig.returnType = some ty) (hlocks : meth.locks = false) (hw : Wk E μ s H locs) {v : Int32} {RU : Int32 × Mu} (hn : narrow ty (.int v) = .int v) (h : RU = (v, μ)) (hdg : decode cc pc = .ok (.ireturn, 1)) : W p l e R s m args below meth c H locs 0 0 (MQ below (va_Qi (fun r u => r = RU.1 ∧ u = RU.2) (fun u t => WdU E u t) (inE E)) args s 0 0 (inE E)) (F0 m pc ls [.int v]) := by
  subst h
  exact W.zret (v := v) hf.1 hf.2.1 hr hn (fun t ht hW => ⟨⟨v, μ, rfl, ⟨rfl, rfl⟩, by rw [ht]; exact hw.1, va_K.moved hW.alike hw.2.1, hw.2.2.1⟩, hw.2.2.2.F ht⟩) hw.2.2.2.2.2 hdg
theorem e_l (hf : CallFix p m c cc nL s args wsL_law own) (hr : meth.sig.returnType = some .long) (hlocks : meth.locks = false) (hw : Wk E μ s H locs) {v : Int64} {RU : Int64 × Mu} (h : RU = (v, μ)) (hdg : decode cc pc = .ok (.lreturn, 1)) : W p l e R s m args below meth c H locs 0 0 (MQ below (va_Ql (fun r u => r = RU.1 ∧ u = RU.2) (fun u t => WdU E u t) (inE E)) args s 0 0 (inE E)) (F0 m pc ls [.long v]) := by
  subst h
  exact W.lret (v := v) hf.1 hf.2.1 hr (fun t ht hW => ⟨⟨v, μ, rfl, ⟨rfl, rfl⟩, by rw [ht]; exact hw.1, va_K.moved hW.alike hw.2.1, hw.2.2.1⟩, hw.2.2.2.F ht⟩) hw.2.2.2.2.2 hdg
theorem e_v (hf : CallFix p m c cc nL s args wsL_law own) (hr : meth.sig.returnType = none) (hlocks : meth.locks = false) (hw : Wk E μ s H locs) {U : Mu} (h : U = μ) (hdg : decode cc pc = .ok (.return_, 1)) : W p l e R s m args below meth c H locs 0 0 (MQ below (va_Qv (fun u => u = U) (fun u t => WdU E u t) (inE E)) args s 0 0 (inE E)) (F0 m pc ls []) := by
  subst h
  exact W.vret hf.1 hf.2.1 hr (fun t ht hW => ⟨⟨U, rfl, rfl, by rw [ht]; exact hw.1, va_K.moved hW.alike hw.2.1, hw.2.2.1⟩, hw.2.2.2.F ht⟩) hw.2.2.2.2.2 hdg
theorem e_q (hf : CallFix p m c cc nL s args wsL_law own) {C : String} (hr : meth.sig.returnType = some (.object C)) (hlocks : meth.locks = false) (hw : Wk E μ s H locs) {v : Value} {r0 : Option Nat} (h : v = va_rf (r0.map E.1)) (hdg : decode cc pc = .ok (.areturn, 1)) : W p l e R s m args below meth c H locs 0 0 (MQ below (va_Qq (fun r u => r = r0.map E.1 ∧ u = μ) (fun u t => WdU E u t) (inE E)) args s 0 0 (inE E)) (F0 m pc ls [v]) := by
  subst h
  exact W.aret hf.1 hf.2.1 hr (Or.inl ⟨_, rfl⟩) (va_rf_or _) (fun t ht hW => ⟨⟨_, μ, rfl, ⟨rfl, rfl⟩, by rw [ht]; exact hw.1, va_K.moved hW.alike hw.2.1, hw.2.2.1⟩, hw.2.2.2.F ht⟩) hw.2.2.2.2.2 hdg
end EN
section CA
variable {p : Program} {l : Launch} {e : Env} {R : Room} {s : State} {m : MethodId} {args : Array Value} {below : List Frame} {meth : Method} {c : Code} {H : Heap} {locs : List Loc} {cells slots : Nat} {Q : State → Prop}
variable {cc : ByteArray} {pc nL : Nat} {ls : Array Slot} {rest st0 : List Value} {E : En} {μ : Mu} {own : String}
theorem Wk_recv (hw : Wk E μ s H locs) {i : Nat} (hi : i < 240) {ci : Nat} {fs : List Value} (hc : cell E μ i = .inr (ci, fs)) {q : vw_C} (hcl : vwCl[ci]? = some q) : ∃ cell : Cell, H[E.1 i]? = some cell ∧ cell.vm.isStatics = false ∧ s.vm.findClass q.1 = some cell.cls := va_recv hw.2.1 hw.1 hcl ((wsA_at E μ hi).trans (by rw [hc]))
theorem Pc_blind {av : List Value} : FrameBlind (va_Pc av (WdU E μ)) := fun _ _ _ _ q => ⟨q.1, WdU_blind q.2⟩
/-- how a method is called: the words of the call, the receiver's cell -/
abbrev CwV (own : String) (index : Nat) (C : String) (y : MethodName) (cc : ByteArray) (n : Nat) (r : Option FieldType) (np : Nat) : Prop := GoodIn wsL_law (wsV own index C y (wsM y cc n r)) ∧ y.cls = C ∧ y.cls ≠ "java/lang/invoke/MethodHandle" ∧ y.cls ≠ "java/lang/invoke/VarHandle" ∧ (parseMethodDescriptor y.desc).map (fun d => d.parameters.length) = some np
abbrev CwS (own : String) (index : Nat) (y : MethodName) (cc : ByteArray) (n : Nat) (r : Option FieldType) (np : Nat) : Prop := GoodIn wsL_law (va_wsS own index y (wsM y cc n r)) ∧ y.cls ≠ "java/lang/invoke/MethodHandle" ∧ y.cls ≠ "java/lang/invoke/VarHandle" ∧ (parseMethodDescriptor y.desc).map (fun d => d.parameters.length) = some np
theorem run_V (hf : CallFix p m c cc nL s args wsL_law own) (hw : Wk E μ s H locs) {y : MethodName} {C : String} {index np n : Nat} {bytes : ByteArray} {ret : Option FieldType} {rm : Room} {As : List Value} {i : Nat} {Qc : Array Value → State → Outcome → State → Prop} (hM : Met l y (wsM y bytes n ret) rm (va_Pc (.ref (E.1 i) :: As) (WdU E μ)) Qc 0 0 (inE E)) (cw : CwV own index C y bytes n ret np) (hrm : rm.cells = 0 ∧ rm.slots = 0 ∧ rm.frames + 1 ≤ R.frames ∧ 8 + (n + 11) + rm.locals ≤ R.locals) (hi : i < 240) {ci : Nat} {fs : List Value} (hc : cell E μ i = .inr (ci, fs)) {T : u_T} {N : Nat} (hcl : vwCl[ci]? = some (C, T, N)) (hn : As.length = np) (hl : ls.size = nL) (hst : st0 = As.reverse ++ .ref (E.1 i) :: rest) (hW : (rest.map fun v => v.category).sum ≤ 8) (hdg : decode cc pc = .ok (.invokevirtual index, 3)) (hcap : cells ≤ R.cells ∧ slots ≤ R.slots) :
    va_Run p l e R s m args below meth c H locs cells slots 0 0 (F0 m pc ls st0) rest (Qc (Value.ref (E.1 i) :: As).toArray) (inE E) :=
  va_runV (C := C) hf hM (cwV np hf.2.2.2.2 cw.1 rfl hrm.1 hrm.2.1 cw.2 hrm.2.2) ⟨Pc_blind, Wk_recv hw hi hc hcl, fun U hU hW => ⟨rfl, Wk_U hw hU hW⟩⟩ rfl hn hl hst (lv_room hW) hdg hcap
theorem run_S (hf : CallFix p m c cc nL s args wsL_law own) (hw : Wk E μ s H locs) {y : MethodName} {index np n : Nat} {bytes : ByteArray} {ret : Option FieldType} {rm : Room} {As : List Value} {Qc : Array Value → State → Outcome → State → Prop} (hM : Met l y (wsM y bytes n ret) rm (va_Pc As (WdU E μ)) Qc 0 0 (inE E)) (cw : CwS own index y bytes n ret np) (hrm : rm.cells = 0 ∧ rm.slots = 0 ∧ rm.frames + 1 ≤ R.frames ∧ 8 + (n + 11) + rm.locals ≤ R.locals) (hn : As.length = np) (hl : ls.size = nL) (hst : st0 = As.reverse ++ rest) (hW : (rest.map fun v => v.category).sum ≤ 8) (hdg : decode cc pc = .ok (.invokestatic index, 3)) (hcap : cells ≤ R.cells ∧ slots ≤ R.slots) :
    va_Run p l e R s m args below meth c H locs cells slots 0 0 (F0 m pc ls st0) rest (Qc As.toArray) (inE E) :=
  va_runS hf hM (va_cwS np hf.2.2.2.2 cw.1 rfl hrm.1 hrm.2.1 cw.2 hrm.2.2) ⟨Pc_blind, fun U hU hW => ⟨rfl, Wk_U hw hU hW⟩⟩ rfl hn hl hst (lv_room hW) hdg hcap
theorem c_i {a : Array Value} {RU : Int32 × Mu} (hw : Wk E μ s H locs) (hr : va_Run p l e R s m args below meth c H locs cells slots 0 0 (F0 m pc ls st0) rest ((va_Qi (fun r u => r = RU.1 ∧ u = RU.2) (fun u t => WdU E u t) (inE E)) a) (inE E))
    (kk : ∀ (H : Heap) (locs : List Loc), Wk E RU.2 s H locs → W p l e R s m args below meth c H locs cells slots Q (F0 m (pc + 3) ls (.int RU.1 :: rest))) : W p l e R s m args below meth c H locs cells slots Q (F0 m pc ls st0) :=
  va_calli hr hw.2.2.2 (fun _ _ h => h) (fun _ h => h) (fun r u t H1 locs1 ht hvm hp hB _ _ hS => by obtain ⟨rfl, rfl⟩ := hp; exact kk H1 locs1 (Wk_back hw ht hB hS))
theorem c_l {a : Array Value} {RU : Int64 × Mu} (hw : Wk E μ s H locs) (hr : va_Run p l e R s m args below meth c H locs cells slots 0 0 (F0 m pc ls st0) rest ((va_Ql (fun r u => r = RU.1 ∧ u = RU.2) (fun u t => WdU E u t) (inE E)) a) (inE E))
    (kk : ∀ (H : Heap) (locs : List Loc), Wk E RU.2 s H locs → W p l e R s m args below meth c H locs cells slots Q (F0 m (pc + 3) ls (.long RU.1 :: rest))) : W p l e R s m args below meth c H locs cells slots Q (F0 m pc ls st0) :=
  va_calll hr hw.2.2.2 (fun _ _ h => h) (fun _ h => h) (fun r u t H1 locs1 ht hvm hp hB _ _ hS => by obtain ⟨rfl, rfl⟩ := hp; exact kk H1 locs1 (Wk_back hw ht hB hS))
theorem c_v {a : Array Value} {U : Mu} (hw : Wk E μ s H locs) (hr : va_Run p l e R s m args below meth c H locs cells slots 0 0 (F0 m pc ls st0) rest ((va_Qv (fun u => u = U) (fun u t => WdU E u t) (inE E)) a) (inE E))
    (kk : ∀ (H : Heap) (locs : List Loc), Wk E U s H locs → W p l e R s m args below meth c H locs cells slots Q (F0 m (pc + 3) ls rest)) : W p l e R s m args below meth c H locs cells slots Q (F0 m pc ls st0) :=
  va_callv hr hw.2.2.2 (fun _ _ h => h) (fun _ h => h) (fun u t H1 locs1 ht hvm hp hB _ _ hS => by subst hp; exact kk H1 locs1 (Wk_back hw ht hB hS))
theorem c_q {a : Array Value} {r0 : Option Nat} (hw : Wk E μ s H locs) (hr : va_Run p l e R s m args below meth c H locs cells slots 0 0 (F0 m pc ls st0) rest ((va_Qq (fun r u => r = r0.map E.1 ∧ u = μ) (fun u t => WdU E u t) (inE E)) a) (inE E))
    (kk : ∀ (H : Heap) (locs : List Loc), Wk E μ s H locs → W p l e R s m args below meth c H locs cells slots Q (F0 m (pc + 3) ls (va_rf (r0.map E.1) :: rest))) : W p l e R s m args below meth c H locs cells slots Q (F0 m pc ls st0) :=
  va_callq hr hw.2.2.2 (fun _ _ h => h) (fun _ h => h) (fun r u t H1 locs1 ht hvm hp hB _ _ hS => by obtain ⟨rfl, rfl⟩ := hp; exact kk H1 locs1 (Wk_back hw ht hB hS))
end CA
end
section
/-! ===== CELLS: ids by name, what each holds, what a write does ===== -/
def iS (j : Nat) : Nat := 37 * j
def iTs (j : Nat) : Nat := 37 * j + 1
def iSs (j : Nat) : Nat := 37 * j + 2
def iSe (j : Nat) : Nat := 37 * j + 3
def iT (j t : Nat) : Nat := 37 * j + 4 + 3 * t
def iTt (j t : Nat) : Nat := 37 * j + 5 + 3 * t
def iTr (j t : Nat) : Nat := 37 * j + 6 + 3 * t
def iN (j n : Nat) : Nat := 37 * j + 13 + 4 * n
def iNl (j n : Nat) : Nat := 37 * j + 14 + 4 * n
def iNs (j n : Nat) : Nat := 37 * j + 15 + 4 * n
def iNr (j n : Nat) : Nat := 37 * j + 16 + 4 * n
def iM (r : Nat) : Nat := 225 + r
def tN (t : Nat) : Nat := 10 + 25 * t
def tD (t k : Nat) : Nat := 11 + 25 * t + k
def tR (t k : Nat) : Nat := 23 + 25 * t + k
def sF (n f : Nat) : Nat := 85 + 28 * n + f
theorem tb_iS : ∀ j, j < 6 → tb (iS j) = (0, j, 0, 3) := by decide +kernel
theorem lt_iS {j : Nat} (hj : j < 6) : iS j < 240 := by unfold iS; omega
theorem tb_iTs : ∀ j, j < 6 → tb (iTs j) = (1, j, 3, 0) := by decide +kernel
theorem lt_iTs {j : Nat} (hj : j < 6) : iTs j < 240 := by unfold iTs; omega
theorem tb_iSs : ∀ j, j < 6 → tb (iSs j) = (2, j, 3, 0) := by decide +kernel
theorem lt_iSs {j : Nat} (hj : j < 6) : iSs j < 240 := by unfold iSs; omega
theorem tb_iSe : ∀ j, j < 6 → tb (iSe j) = (3, j, 3, 7) := by decide +kernel
theorem lt_iSe {j : Nat} (hj : j < 6) : iSe j < 240 := by unfold iSe; omega
theorem tb_iT : ∀ j, j < 6 → ∀ t, t < 3 → tb (iT j t) = (4, j, tN t, 1) := by decide +kernel
theorem lt_iT {j : Nat} {t : Nat} (hj : j < 6) (ht : t < 3) : iT j t < 240 := by unfold iT; omega
theorem tb_iTt : ∀ j, j < 6 → ∀ t, t < 3 → tb (iTt j t) = (3, j, tD t 0, 12) := by decide +kernel
theorem lt_iTt {j : Nat} {t : Nat} (hj : j < 6) (ht : t < 3) : iTt j t < 240 := by unfold iTt; omega
theorem tb_iTr : ∀ j, j < 6 → ∀ t, t < 3 → tb (iTr j t) = (3, j, tR t 0, 12) := by decide +kernel
theorem lt_iTr {j : Nat} {t : Nat} (hj : j < 6) (ht : t < 3) : iTr j t < 240 := by unfold iTr; omega
theorem tb_iN : ∀ j, j < 6 → ∀ n, n < 6 → tb (iN j n) = (5, j, sF n 0, 12) := by decide +kernel
theorem lt_iN {j : Nat} {n : Nat} (hj : j < 6) (hn : n < 6) : iN j n < 240 := by unfold iN; omega
theorem tb_iNl : ∀ j, j < 6 → ∀ n, n < 6 → tb (iNl j n) = (3, j, sF n 12, 4) := by decide +kernel
theorem lt_iNl {j : Nat} {n : Nat} (hj : j < 6) (hn : n < 6) : iNl j n < 240 := by unfold iNl; omega
theorem tb_iNs : ∀ j, j < 6 → ∀ n, n < 6 → tb (iNs j n) = (3, j, sF n 16, 3) := by decide +kernel
theorem lt_iNs {j : Nat} {n : Nat} (hj : j < 6) (hn : n < 6) : iNs j n < 240 := by unfold iNs; omega
theorem tb_iNr : ∀ j, j < 6 → ∀ n, n < 6 → tb (iNr j n) = (3, j, sF n 19, 9) := by decide +kernel
theorem lt_iNr {j : Nat} {n : Nat} (hj : j < 6) (hn : n < 6) : iNr j n < 240 := by unfold iNr; omega
theorem tb_iM : ∀ r, r < 3 → tb (iM r) = (9, 6, 3, 0) := by decide +kernel
theorem lt_iM {r : Nat} (hr : r < 3) : iM r < 240 := by unfold iM; omega
abbrev fsS (E : En) (μ : Mu) (j : Nat) : List Value := [.int (μ.1 j 0), .int (μ.1 j 1), .int (μ.1 j 2), .ref (E.1 (iTs j)), .ref (E.1 (iSs j)), .ref (E.1 (iSe j))]
abbrev fsT (E : En) (μ : Mu) (j t : Nat) : List Value := [.int (μ.1 j (tN t)), .ref (E.1 (iTt j t)), .ref (E.1 (iTr j t))]
abbrev fsN (E : En) (μ : Mu) (j n : Nat) : List Value := [.int (μ.1 j (sF n 0)), .int (μ.1 j (sF n 1)), .int (μ.1 j (sF n 2)), .int (μ.1 j (sF n 3)), .int (μ.1 j (sF n 4)), .int (μ.1 j (sF n 5)), .int (μ.1 j (sF n 6)), .int (μ.1 j (sF n 7)), .int (μ.1 j (sF n 8)), .int (μ.1 j (sF n 9)), .int (μ.1 j (sF n 10)), .int (μ.1 j (sF n 11)), .ref (E.1 (iNl j n)), .ref (E.1 (iNs j n)), .ref (E.1 (iNr j n))]
abbrev fsHi (E : En) (μ : Mu)  : List Value := [.int (μ.1 6 0), .ref (E.1 223)]
abbrev fsMe (E : En) (μ : Mu)  : List Value := [.ref (E.1 (iM 0)), .ref (E.1 (iM 1)), .long (μ.2.1 3 0), .int (μ.1 6 1), .int (μ.1 6 2)]
abbrev fsM (E : En) (μ : Mu) (r : Nat) : List Value := [.long (μ.2.1 r 0), .long (μ.2.1 r 1), .long (μ.2.1 r 2), .long (μ.2.1 r 3), .long (μ.2.1 r 4), .long (μ.2.1 r 5), .long (μ.2.1 r 6), .long (μ.2.1 r 7), .long (μ.2.1 r 8), .long (μ.2.1 r 9), .long (μ.2.1 r 10)]
abbrev fsTx (E : En) (μ : Mu)  : List Value := [.int (μ.1 6 3), .int (μ.1 6 4), .int (μ.1 6 5), .int (μ.1 6 6), .int (μ.1 6 7), .ref (E.1 229)]
abbrev fsO (E : En) (μ : Mu)  : List Value := [.ref (E.1 (iS 0)), .ref (E.1 (iS 1)), .ref (E.1 222), .ref (E.1 224), .ref (E.1 (iM 2)), .ref (E.1 228), .ref (E.1 230), .int (μ.1 6 77), .int (μ.1 6 78), .int (μ.1 6 79)]
abbrev fsR (E : En) (μ : Mu)  : List Value := [.ref (E.1 233), .ref (E.1 234), .ref (E.1 235), .ref (E.1 236), .int (μ.1 7 0), .ref (E.1 237), .int (μ.1 7 1), .int (μ.1 7 2), .int (μ.1 7 3), .ref (E.1 238), .ref (E.1 239)]
theorem c_iS (E : En) (μ : Mu) {j : Nat} (hj : j < 6) : cell E μ (iS j) = .inr (4, fsS E μ j) := by
  have h := tb_iS j hj
  unfold cell
  rw [h]
  simp [cellK, tr, iS, iTs, iSs, iSe]
theorem c_iTs (E : En) (μ : Mu) {j : Nat} (hj : j < 6) : cell E μ (iTs j) = .inl (E.2.2 2, 3, .inr (.inr (.inr (.inr (fun y => if y < 3 then some (E.1 (iT j y)) else none))))) := by
  have h := tb_iTs j hj
  unfold cell
  rw [h]
  simp [cellK, iTs, iT, Nat.add_assoc]
theorem c_iSs (E : En) (μ : Mu) {j : Nat} (hj : j < 6) : cell E μ (iSs j) = .inl (E.2.2 3, 6, .inr (.inr (.inr (.inr (fun y => if y < 6 then some (E.1 (iN j y)) else none))))) := by
  have h := tb_iSs j hj
  unfold cell
  rw [h]
  simp [cellK, iSs, iN, Nat.add_assoc]
theorem c_iSe (E : En) (μ : Mu) {j : Nat} (hj : j < 6) : cell E μ (iSe j) = .inl (E.2.2 0, 7, .inl (tr 7 (fun y => μ.1 j (3 + y)))) := by
  have h := tb_iSe j hj
  unfold cell
  rw [h]
  simp [cellK, tD, tR, sF, Nat.add_assoc]
theorem c_iT (E : En) (μ : Mu) {j : Nat} {t : Nat} (hj : j < 6) (ht : t < 3) : cell E μ (iT j t) = .inr (5, fsT E μ j t) := by
  have h := tb_iT j hj t ht
  unfold cell
  rw [h]
  simp [cellK, tr, iT, iTt, iTr, show 37 * j + 4 + 3 * t + 1 = 37 * j + 5 + 3 * t by omega, show 37 * j + 4 + 3 * t + 2 = 37 * j + 6 + 3 * t by omega]
theorem c_iTt (E : En) (μ : Mu) {j : Nat} {t : Nat} (hj : j < 6) (ht : t < 3) : cell E μ (iTt j t) = .inl (E.2.2 0, 12, .inl (tr 12 (fun y => μ.1 j (tD t y)))) := by
  have h := tb_iTt j hj t ht
  unfold cell
  rw [h]
  simp [cellK, tD, tR, sF, Nat.add_assoc]
theorem c_iTr (E : En) (μ : Mu) {j : Nat} {t : Nat} (hj : j < 6) (ht : t < 3) : cell E μ (iTr j t) = .inl (E.2.2 0, 12, .inl (tr 12 (fun y => μ.1 j (tR t y)))) := by
  have h := tb_iTr j hj t ht
  unfold cell
  rw [h]
  simp [cellK, tD, tR, sF, Nat.add_assoc]
theorem c_iN (E : En) (μ : Mu) {j : Nat} {n : Nat} (hj : j < 6) (hn : n < 6) : cell E μ (iN j n) = .inr (3, fsN E μ j n) := by
  have h := tb_iN j hj n hn
  unfold cell
  rw [h]
  simp [cellK, tr, iN, iNl, iNs, iNr, sF, show 37 * j + 13 + 4 * n + 1 = 37 * j + 14 + 4 * n by omega, show 37 * j + 13 + 4 * n + 2 = 37 * j + 15 + 4 * n by omega, show 37 * j + 13 + 4 * n + 3 = 37 * j + 16 + 4 * n by omega]
theorem c_iNl (E : En) (μ : Mu) {j : Nat} {n : Nat} (hj : j < 6) (hn : n < 6) : cell E μ (iNl j n) = .inl (E.2.2 0, 4, .inl (tr 4 (fun y => μ.1 j (sF n (12 + y))))) := by
  have h := tb_iNl j hj n hn
  unfold cell
  rw [h]
  simp [cellK, tD, tR, sF, Nat.add_assoc]
theorem c_iNs (E : En) (μ : Mu) {j : Nat} {n : Nat} (hj : j < 6) (hn : n < 6) : cell E μ (iNs j n) = .inl (E.2.2 0, 3, .inl (tr 3 (fun y => μ.1 j (sF n (16 + y))))) := by
  have h := tb_iNs j hj n hn
  unfold cell
  rw [h]
  simp [cellK, tD, tR, sF, Nat.add_assoc]
theorem c_iNr (E : En) (μ : Mu) {j : Nat} {n : Nat} (hj : j < 6) (hn : n < 6) : cell E μ (iNr j n) = .inl (E.2.2 0, 9, .inl (tr 9 (fun y => μ.1 j (sF n (19 + y))))) := by
  have h := tb_iNr j hj n hn
  unfold cell
  rw [h]
  simp [cellK, tD, tR, sF, Nat.add_assoc]
theorem c_iM (E : En) (μ : Mu) {r : Nat} (hr : r < 3) : cell E μ (iM r) = .inr (1, fsM E μ r) := by
  have h := tb_iM r hr
  have h2 : jOf μ.2.1 (iM r) = μ.2.1 r := by unfold jOf jRow iM; rw [if_pos (by omega), if_neg (by omega), show 225 + r - 225 = r by omega]
  unfold cell
  rw [h, h2]
  rfl
theorem c_Hi (E : En) (μ : Mu) : cell E μ 222 = .inr (0, fsHi E μ) := by
  have h : tb 222 = (6, 6, 0, 1) := by decide +kernel
  unfold cell
  rw [h]
  simp [cellK, tr, tr]
theorem c_Hk (E : En) (μ : Mu) : cell E μ 223 = .inl (E.2.2 4, 4, .inr (.inr (.inr (.inr (fun y => if y < 4 then some (E.1 (iS (μ.2.2 y))) else none))))) := rfl
theorem c_Me (E : En) (μ : Mu) : cell E μ 224 = .inr (2, fsMe E μ) := by
  have h : tb 224 = (8, 6, 1, 2) := by decide +kernel
  unfold cell
  rw [h]
  simp [cellK, tr, jOf, jRow, iM]
theorem c_Tx (E : En) (μ : Mu) : cell E μ 228 = .inr (6, fsTx E μ) := by
  have h : tb 228 = (10, 6, 3, 5) := by decide +kernel
  unfold cell
  rw [h]
  simp [cellK, tr, tr]
theorem c_O (E : En) (μ : Mu) : cell E μ 231 = .inr (7, fsO E μ) := by
  have h : tb 231 = (12, 6, 77, 3) := by decide +kernel
  unfold cell
  rw [h]
  simp [cellK, tr, iS, iM]
theorem c_R (E : En) (μ : Mu) : cell E μ 232 = .inr (8, fsR E μ) := by
  have h : tb 232 = (13, 7, 0, 4) := by decide +kernel
  unfold cell
  rw [h]
  simp [cellK, tr, tr]
theorem c_Tc (E : En) (μ : Mu) : cell E μ 229 = .inl (E.2.2 1, 60, .inl (tr 60 (fun y => μ.1 6 (8 + y)))) := by
  have h : tb 229 = (11, 6, 8, 60) := by decide +kernel
  unfold cell
  rw [h]
  simp [cellK]
theorem c_So (E : En) (μ : Mu) : cell E μ 230 = .inl (E.2.2 0, 9, .inl (tr 9 (fun y => μ.1 6 (68 + y)))) := by
  have h : tb 230 = (3, 6, 68, 9) := by decide +kernel
  unfold cell
  rw [h]
  simp [cellK]
theorem c_Rs (E : En) (μ : Mu) : cell E μ 233 = .inl (E.2.2 0, 259, .inl (tr 259 (fun y => μ.1 8 y))) := by
  have h : tb 233 = (3, 8, 0, 259) := by decide +kernel
  unfold cell
  rw [h]
  simp [cellK]
theorem c_Rw (E : En) (μ : Mu) : cell E μ 234 = .inl (E.2.2 0, 1036, .inl (tr 1036 (fun y => μ.1 9 y))) := by
  have h : tb 234 = (3, 9, 0, 1036) := by decide +kernel
  unfold cell
  rw [h]
  simp [cellK]
theorem c_Ra (E : En) (μ : Mu) : cell E μ 235 = .inl (E.2.2 0, 259, .inl (tr 259 (fun y => μ.1 10 y))) := by
  have h : tb 235 = (3, 10, 0, 259) := by decide +kernel
  unfold cell
  rw [h]
  simp [cellK]
theorem c_Rb (E : En) (μ : Mu) : cell E μ 236 = .inl (E.2.2 0, 259, .inl (tr 259 (fun y => μ.1 11 y))) := by
  have h : tb 236 = (3, 11, 0, 259) := by decide +kernel
  unfold cell
  rw [h]
  simp [cellK]
theorem c_Rt (E : En) (μ : Mu) : cell E μ 237 = .inl (E.2.2 1, 60, .inl (tr 60 (fun y => μ.1 12 y))) := by
  have h : tb 237 = (11, 12, 0, 60) := by decide +kernel
  unfold cell
  rw [h]
  simp [cellK]
theorem c_Rg (E : En) (μ : Mu) : cell E μ 238 = .inl (E.2.2 0, 2, .inl (tr 2 (fun y => μ.1 13 y))) := by
  have h : tb 238 = (3, 13, 0, 2) := by decide +kernel
  unfold cell
  rw [h]
  simp [cellK]
theorem c_Ro (E : En) (μ : Mu) : cell E μ 239 = .inl (E.2.2 0, 9, .inl (tr 9 (fun y => μ.1 14 y))) := by
  have h : tb 239 = (3, 14, 0, 9) := by decide +kernel
  unfold cell
  rw [h]
  simp [cellK]
theorem s_S_0 (E : En) (μ : Mu) {j : Nat} (hj : j < 6) (v : Int32) : (wsA E μ).set (iS j) (E.1 (iS j), .inr (4, (fsS E μ j).set 0 (.int v))) = wsA E (pM μ j 0 v) := by
  have h := tb_iS j hj
  refine wsA_pM E μ (lt_iS hj) (by rw [h]) (by rw [h];  show _ ≤ _; simp only [tN, sF, tD, tR]; omega) (by rw [h];  show _ < _; simp only [tN, sF, tD, tR]; omega) ?_
  rw [c_iS E _ hj]
  simp [pM, upM, tN, sF]
theorem s_S_1 (E : En) (μ : Mu) {j : Nat} (hj : j < 6) (v : Int32) : (wsA E μ).set (iS j) (E.1 (iS j), .inr (4, (fsS E μ j).set 1 (.int v))) = wsA E (pM μ j 1 v) := by
  have h := tb_iS j hj
  refine wsA_pM E μ (lt_iS hj) (by rw [h]) (by rw [h];  show _ ≤ _; simp only [tN, sF, tD, tR]; omega) (by rw [h];  show _ < _; simp only [tN, sF, tD, tR]; omega) ?_
  rw [c_iS E _ hj]
  simp [pM, upM, tN, sF]
theorem s_S_2 (E : En) (μ : Mu) {j : Nat} (hj : j < 6) (v : Int32) : (wsA E μ).set (iS j) (E.1 (iS j), .inr (4, (fsS E μ j).set 2 (.int v))) = wsA E (pM μ j 2 v) := by
  have h := tb_iS j hj
  refine wsA_pM E μ (lt_iS hj) (by rw [h]) (by rw [h];  show _ ≤ _; simp only [tN, sF, tD, tR]; omega) (by rw [h];  show _ < _; simp only [tN, sF, tD, tR]; omega) ?_
  rw [c_iS E _ hj]
  simp [pM, upM, tN, sF]
theorem s_T_0 (E : En) (μ : Mu) {j : Nat} {t : Nat} (hj : j < 6) (ht : t < 3) (v : Int32) : (wsA E μ).set (iT j t) (E.1 (iT j t), .inr (5, (fsT E μ j t).set 0 (.int v))) = wsA E (pM μ j (tN t) v) := by
  have h := tb_iT j hj t ht
  refine wsA_pM E μ (lt_iT hj ht) (by rw [h]) (by rw [h];  show _ ≤ _; simp only [tN, sF, tD, tR]; omega) (by rw [h];  show _ < _; simp only [tN, sF, tD, tR]; omega) ?_
  rw [c_iT E _ hj ht]
  simp [pM, upM, tN, sF]
theorem s_N_0 (E : En) (μ : Mu) {j : Nat} {n : Nat} (hj : j < 6) (hn : n < 6) (v : Int32) : (wsA E μ).set (iN j n) (E.1 (iN j n), .inr (3, (fsN E μ j n).set 0 (.int v))) = wsA E (pM μ j (sF n 0) v) := by
  have h := tb_iN j hj n hn
  refine wsA_pM E μ (lt_iN hj hn) (by rw [h]) (by rw [h];  show _ ≤ _; simp only [tN, sF, tD, tR]; omega) (by rw [h];  show _ < _; simp only [tN, sF, tD, tR]; omega) ?_
  rw [c_iN E _ hj hn]
  simp [pM, upM, tN, sF]
theorem s_N_1 (E : En) (μ : Mu) {j : Nat} {n : Nat} (hj : j < 6) (hn : n < 6) (v : Int32) : (wsA E μ).set (iN j n) (E.1 (iN j n), .inr (3, (fsN E μ j n).set 1 (.int v))) = wsA E (pM μ j (sF n 1) v) := by
  have h := tb_iN j hj n hn
  refine wsA_pM E μ (lt_iN hj hn) (by rw [h]) (by rw [h];  show _ ≤ _; simp only [tN, sF, tD, tR]; omega) (by rw [h];  show _ < _; simp only [tN, sF, tD, tR]; omega) ?_
  rw [c_iN E _ hj hn]
  simp [pM, upM, tN, sF]
theorem s_N_2 (E : En) (μ : Mu) {j : Nat} {n : Nat} (hj : j < 6) (hn : n < 6) (v : Int32) : (wsA E μ).set (iN j n) (E.1 (iN j n), .inr (3, (fsN E μ j n).set 2 (.int v))) = wsA E (pM μ j (sF n 2) v) := by
  have h := tb_iN j hj n hn
  refine wsA_pM E μ (lt_iN hj hn) (by rw [h]) (by rw [h];  show _ ≤ _; simp only [tN, sF, tD, tR]; omega) (by rw [h];  show _ < _; simp only [tN, sF, tD, tR]; omega) ?_
  rw [c_iN E _ hj hn]
  simp [pM, upM, tN, sF]
theorem s_N_3 (E : En) (μ : Mu) {j : Nat} {n : Nat} (hj : j < 6) (hn : n < 6) (v : Int32) : (wsA E μ).set (iN j n) (E.1 (iN j n), .inr (3, (fsN E μ j n).set 3 (.int v))) = wsA E (pM μ j (sF n 3) v) := by
  have h := tb_iN j hj n hn
  refine wsA_pM E μ (lt_iN hj hn) (by rw [h]) (by rw [h];  show _ ≤ _; simp only [tN, sF, tD, tR]; omega) (by rw [h];  show _ < _; simp only [tN, sF, tD, tR]; omega) ?_
  rw [c_iN E _ hj hn]
  simp [pM, upM, tN, sF]
theorem s_N_4 (E : En) (μ : Mu) {j : Nat} {n : Nat} (hj : j < 6) (hn : n < 6) (v : Int32) : (wsA E μ).set (iN j n) (E.1 (iN j n), .inr (3, (fsN E μ j n).set 4 (.int v))) = wsA E (pM μ j (sF n 4) v) := by
  have h := tb_iN j hj n hn
  refine wsA_pM E μ (lt_iN hj hn) (by rw [h]) (by rw [h];  show _ ≤ _; simp only [tN, sF, tD, tR]; omega) (by rw [h];  show _ < _; simp only [tN, sF, tD, tR]; omega) ?_
  rw [c_iN E _ hj hn]
  simp [pM, upM, tN, sF]
theorem s_N_5 (E : En) (μ : Mu) {j : Nat} {n : Nat} (hj : j < 6) (hn : n < 6) (v : Int32) : (wsA E μ).set (iN j n) (E.1 (iN j n), .inr (3, (fsN E μ j n).set 5 (.int v))) = wsA E (pM μ j (sF n 5) v) := by
  have h := tb_iN j hj n hn
  refine wsA_pM E μ (lt_iN hj hn) (by rw [h]) (by rw [h];  show _ ≤ _; simp only [tN, sF, tD, tR]; omega) (by rw [h];  show _ < _; simp only [tN, sF, tD, tR]; omega) ?_
  rw [c_iN E _ hj hn]
  simp [pM, upM, tN, sF]
theorem s_N_6 (E : En) (μ : Mu) {j : Nat} {n : Nat} (hj : j < 6) (hn : n < 6) (v : Int32) : (wsA E μ).set (iN j n) (E.1 (iN j n), .inr (3, (fsN E μ j n).set 6 (.int v))) = wsA E (pM μ j (sF n 6) v) := by
  have h := tb_iN j hj n hn
  refine wsA_pM E μ (lt_iN hj hn) (by rw [h]) (by rw [h];  show _ ≤ _; simp only [tN, sF, tD, tR]; omega) (by rw [h];  show _ < _; simp only [tN, sF, tD, tR]; omega) ?_
  rw [c_iN E _ hj hn]
  simp [pM, upM, tN, sF]
theorem s_N_7 (E : En) (μ : Mu) {j : Nat} {n : Nat} (hj : j < 6) (hn : n < 6) (v : Int32) : (wsA E μ).set (iN j n) (E.1 (iN j n), .inr (3, (fsN E μ j n).set 7 (.int v))) = wsA E (pM μ j (sF n 7) v) := by
  have h := tb_iN j hj n hn
  refine wsA_pM E μ (lt_iN hj hn) (by rw [h]) (by rw [h];  show _ ≤ _; simp only [tN, sF, tD, tR]; omega) (by rw [h];  show _ < _; simp only [tN, sF, tD, tR]; omega) ?_
  rw [c_iN E _ hj hn]
  simp [pM, upM, tN, sF]
theorem s_N_8 (E : En) (μ : Mu) {j : Nat} {n : Nat} (hj : j < 6) (hn : n < 6) (v : Int32) : (wsA E μ).set (iN j n) (E.1 (iN j n), .inr (3, (fsN E μ j n).set 8 (.int v))) = wsA E (pM μ j (sF n 8) v) := by
  have h := tb_iN j hj n hn
  refine wsA_pM E μ (lt_iN hj hn) (by rw [h]) (by rw [h];  show _ ≤ _; simp only [tN, sF, tD, tR]; omega) (by rw [h];  show _ < _; simp only [tN, sF, tD, tR]; omega) ?_
  rw [c_iN E _ hj hn]
  simp [pM, upM, tN, sF]
theorem s_N_9 (E : En) (μ : Mu) {j : Nat} {n : Nat} (hj : j < 6) (hn : n < 6) (v : Int32) : (wsA E μ).set (iN j n) (E.1 (iN j n), .inr (3, (fsN E μ j n).set 9 (.int v))) = wsA E (pM μ j (sF n 9) v) := by
  have h := tb_iN j hj n hn
  refine wsA_pM E μ (lt_iN hj hn) (by rw [h]) (by rw [h];  show _ ≤ _; simp only [tN, sF, tD, tR]; omega) (by rw [h];  show _ < _; simp only [tN, sF, tD, tR]; omega) ?_
  rw [c_iN E _ hj hn]
  simp [pM, upM, tN, sF]
theorem s_N_10 (E : En) (μ : Mu) {j : Nat} {n : Nat} (hj : j < 6) (hn : n < 6) (v : Int32) : (wsA E μ).set (iN j n) (E.1 (iN j n), .inr (3, (fsN E μ j n).set 10 (.int v))) = wsA E (pM μ j (sF n 10) v) := by
  have h := tb_iN j hj n hn
  refine wsA_pM E μ (lt_iN hj hn) (by rw [h]) (by rw [h];  show _ ≤ _; simp only [tN, sF, tD, tR]; omega) (by rw [h];  show _ < _; simp only [tN, sF, tD, tR]; omega) ?_
  rw [c_iN E _ hj hn]
  simp [pM, upM, tN, sF]
theorem s_N_11 (E : En) (μ : Mu) {j : Nat} {n : Nat} (hj : j < 6) (hn : n < 6) (v : Int32) : (wsA E μ).set (iN j n) (E.1 (iN j n), .inr (3, (fsN E μ j n).set 11 (.int v))) = wsA E (pM μ j (sF n 11) v) := by
  have h := tb_iN j hj n hn
  refine wsA_pM E μ (lt_iN hj hn) (by rw [h]) (by rw [h];  show _ ≤ _; simp only [tN, sF, tD, tR]; omega) (by rw [h];  show _ < _; simp only [tN, sF, tD, tR]; omega) ?_
  rw [c_iN E _ hj hn]
  simp [pM, upM, tN, sF]
theorem s_Hi_0 (E : En) (μ : Mu)   (v : Int32) : (wsA E μ).set (222) (E.1 (222), .inr (0, (fsHi E μ).set 0 (.int v))) = wsA E (pM μ 6 0 v) := by
  have h := (show tb 222 = (6, 6, 0, 1) by decide +kernel)
  refine wsA_pM E μ (by decide) (by rw [h]) (by rw [h]; show _ ≤ _; decide) (by rw [h]; show _ < _; decide) ?_
  rw [c_Hi]
  simp [pM, upM, tN, sF]
theorem s_Me_3 (E : En) (μ : Mu)   (v : Int32) : (wsA E μ).set (224) (E.1 (224), .inr (2, (fsMe E μ).set 3 (.int v))) = wsA E (pM μ 6 1 v) := by
  have h := (show tb 224 = (8, 6, 1, 2) by decide +kernel)
  refine wsA_pM E μ (by decide) (by rw [h]) (by rw [h]; show _ ≤ _; decide) (by rw [h]; show _ < _; decide) ?_
  rw [c_Me]
  simp [pM, upM, tN, sF]
theorem s_Me_4 (E : En) (μ : Mu)   (v : Int32) : (wsA E μ).set (224) (E.1 (224), .inr (2, (fsMe E μ).set 4 (.int v))) = wsA E (pM μ 6 2 v) := by
  have h := (show tb 224 = (8, 6, 1, 2) by decide +kernel)
  refine wsA_pM E μ (by decide) (by rw [h]) (by rw [h]; show _ ≤ _; decide) (by rw [h]; show _ < _; decide) ?_
  rw [c_Me]
  simp [pM, upM, tN, sF]
theorem s_Tx_0 (E : En) (μ : Mu)   (v : Int32) : (wsA E μ).set (228) (E.1 (228), .inr (6, (fsTx E μ).set 0 (.int v))) = wsA E (pM μ 6 3 v) := by
  have h := (show tb 228 = (10, 6, 3, 5) by decide +kernel)
  refine wsA_pM E μ (by decide) (by rw [h]) (by rw [h]; show _ ≤ _; decide) (by rw [h]; show _ < _; decide) ?_
  rw [c_Tx]
  simp [pM, upM, tN, sF]
theorem s_Tx_1 (E : En) (μ : Mu)   (v : Int32) : (wsA E μ).set (228) (E.1 (228), .inr (6, (fsTx E μ).set 1 (.int v))) = wsA E (pM μ 6 4 v) := by
  have h := (show tb 228 = (10, 6, 3, 5) by decide +kernel)
  refine wsA_pM E μ (by decide) (by rw [h]) (by rw [h]; show _ ≤ _; decide) (by rw [h]; show _ < _; decide) ?_
  rw [c_Tx]
  simp [pM, upM, tN, sF]
theorem s_Tx_2 (E : En) (μ : Mu)   (v : Int32) : (wsA E μ).set (228) (E.1 (228), .inr (6, (fsTx E μ).set 2 (.int v))) = wsA E (pM μ 6 5 v) := by
  have h := (show tb 228 = (10, 6, 3, 5) by decide +kernel)
  refine wsA_pM E μ (by decide) (by rw [h]) (by rw [h]; show _ ≤ _; decide) (by rw [h]; show _ < _; decide) ?_
  rw [c_Tx]
  simp [pM, upM, tN, sF]
theorem s_Tx_3 (E : En) (μ : Mu)   (v : Int32) : (wsA E μ).set (228) (E.1 (228), .inr (6, (fsTx E μ).set 3 (.int v))) = wsA E (pM μ 6 6 v) := by
  have h := (show tb 228 = (10, 6, 3, 5) by decide +kernel)
  refine wsA_pM E μ (by decide) (by rw [h]) (by rw [h]; show _ ≤ _; decide) (by rw [h]; show _ < _; decide) ?_
  rw [c_Tx]
  simp [pM, upM, tN, sF]
theorem s_Tx_4 (E : En) (μ : Mu)   (v : Int32) : (wsA E μ).set (228) (E.1 (228), .inr (6, (fsTx E μ).set 4 (.int v))) = wsA E (pM μ 6 7 v) := by
  have h := (show tb 228 = (10, 6, 3, 5) by decide +kernel)
  refine wsA_pM E μ (by decide) (by rw [h]) (by rw [h]; show _ ≤ _; decide) (by rw [h]; show _ < _; decide) ?_
  rw [c_Tx]
  simp [pM, upM, tN, sF]
theorem s_O_7 (E : En) (μ : Mu)   (v : Int32) : (wsA E μ).set (231) (E.1 (231), .inr (7, (fsO E μ).set 7 (.int v))) = wsA E (pM μ 6 77 v) := by
  have h := (show tb 231 = (12, 6, 77, 3) by decide +kernel)
  refine wsA_pM E μ (by decide) (by rw [h]) (by rw [h]; show _ ≤ _; decide) (by rw [h]; show _ < _; decide) ?_
  rw [c_O]
  simp [pM, upM, tN, sF]
theorem s_O_8 (E : En) (μ : Mu)   (v : Int32) : (wsA E μ).set (231) (E.1 (231), .inr (7, (fsO E μ).set 8 (.int v))) = wsA E (pM μ 6 78 v) := by
  have h := (show tb 231 = (12, 6, 77, 3) by decide +kernel)
  refine wsA_pM E μ (by decide) (by rw [h]) (by rw [h]; show _ ≤ _; decide) (by rw [h]; show _ < _; decide) ?_
  rw [c_O]
  simp [pM, upM, tN, sF]
theorem s_O_9 (E : En) (μ : Mu)   (v : Int32) : (wsA E μ).set (231) (E.1 (231), .inr (7, (fsO E μ).set 9 (.int v))) = wsA E (pM μ 6 79 v) := by
  have h := (show tb 231 = (12, 6, 77, 3) by decide +kernel)
  refine wsA_pM E μ (by decide) (by rw [h]) (by rw [h]; show _ ≤ _; decide) (by rw [h]; show _ < _; decide) ?_
  rw [c_O]
  simp [pM, upM, tN, sF]
theorem s_R_4 (E : En) (μ : Mu)   (v : Int32) : (wsA E μ).set (232) (E.1 (232), .inr (8, (fsR E μ).set 4 (.int v))) = wsA E (pM μ 7 0 v) := by
  have h := (show tb 232 = (13, 7, 0, 4) by decide +kernel)
  refine wsA_pM E μ (by decide) (by rw [h]) (by rw [h]; show _ ≤ _; decide) (by rw [h]; show _ < _; decide) ?_
  rw [c_R]
  simp [pM, upM, tN, sF]
theorem s_R_6 (E : En) (μ : Mu)   (v : Int32) : (wsA E μ).set (232) (E.1 (232), .inr (8, (fsR E μ).set 6 (.int v))) = wsA E (pM μ 7 1 v) := by
  have h := (show tb 232 = (13, 7, 0, 4) by decide +kernel)
  refine wsA_pM E μ (by decide) (by rw [h]) (by rw [h]; show _ ≤ _; decide) (by rw [h]; show _ < _; decide) ?_
  rw [c_R]
  simp [pM, upM, tN, sF]
theorem s_R_7 (E : En) (μ : Mu)   (v : Int32) : (wsA E μ).set (232) (E.1 (232), .inr (8, (fsR E μ).set 7 (.int v))) = wsA E (pM μ 7 2 v) := by
  have h := (show tb 232 = (13, 7, 0, 4) by decide +kernel)
  refine wsA_pM E μ (by decide) (by rw [h]) (by rw [h]; show _ ≤ _; decide) (by rw [h]; show _ < _; decide) ?_
  rw [c_R]
  simp [pM, upM, tN, sF]
theorem s_R_8 (E : En) (μ : Mu)   (v : Int32) : (wsA E μ).set (232) (E.1 (232), .inr (8, (fsR E μ).set 8 (.int v))) = wsA E (pM μ 7 3 v) := by
  have h := (show tb 232 = (13, 7, 0, 4) by decide +kernel)
  refine wsA_pM E μ (by decide) (by rw [h]) (by rw [h]; show _ ≤ _; decide) (by rw [h]; show _ < _; decide) ?_
  rw [c_R]
  simp [pM, upM, tN, sF]
theorem s_M_0 (E : En) (μ : Mu) {r : Nat} (hr : r < 3) (v : Int64) : (wsA E μ).set (iM r) (E.1 (iM r), .inr (1, (fsM E μ r).set 0 (.long v))) = wsA E (pJ μ r 0 v) := by
  refine wsA_set E μ _ (lt_iM hr) ?_ (fun k hk hne => cell_J E μ (fun y => ?_))
  · rw [c_iM E _ hr]; simp [pJ, upJ]
  · unfold jOf jRow upJ; unfold iM at hne; by_cases h1 : 224 ≤ k ∧ k < 228
    · rw [if_pos h1, if_pos h1]
      show _ = if _ ∧ _ then _ else _
      have hq : (if k = 224 then 3 else k - 225) ≠ r := by split <;> omega
      rw [if_neg (fun q => hq q.1)]
    · rw [if_neg h1, if_neg h1]
theorem s_M_1 (E : En) (μ : Mu) {r : Nat} (hr : r < 3) (v : Int64) : (wsA E μ).set (iM r) (E.1 (iM r), .inr (1, (fsM E μ r).set 1 (.long v))) = wsA E (pJ μ r 1 v) := by
  refine wsA_set E μ _ (lt_iM hr) ?_ (fun k hk hne => cell_J E μ (fun y => ?_))
  · rw [c_iM E _ hr]; simp [pJ, upJ]
  · unfold jOf jRow upJ; unfold iM at hne; by_cases h1 : 224 ≤ k ∧ k < 228
    · rw [if_pos h1, if_pos h1]
      show _ = if _ ∧ _ then _ else _
      have hq : (if k = 224 then 3 else k - 225) ≠ r := by split <;> omega
      rw [if_neg (fun q => hq q.1)]
    · rw [if_neg h1, if_neg h1]
theorem s_M_2 (E : En) (μ : Mu) {r : Nat} (hr : r < 3) (v : Int64) : (wsA E μ).set (iM r) (E.1 (iM r), .inr (1, (fsM E μ r).set 2 (.long v))) = wsA E (pJ μ r 2 v) := by
  refine wsA_set E μ _ (lt_iM hr) ?_ (fun k hk hne => cell_J E μ (fun y => ?_))
  · rw [c_iM E _ hr]; simp [pJ, upJ]
  · unfold jOf jRow upJ; unfold iM at hne; by_cases h1 : 224 ≤ k ∧ k < 228
    · rw [if_pos h1, if_pos h1]
      show _ = if _ ∧ _ then _ else _
      have hq : (if k = 224 then 3 else k - 225) ≠ r := by split <;> omega
      rw [if_neg (fun q => hq q.1)]
    · rw [if_neg h1, if_neg h1]
theorem s_M_3 (E : En) (μ : Mu) {r : Nat} (hr : r < 3) (v : Int64) : (wsA E μ).set (iM r) (E.1 (iM r), .inr (1, (fsM E μ r).set 3 (.long v))) = wsA E (pJ μ r 3 v) := by
  refine wsA_set E μ _ (lt_iM hr) ?_ (fun k hk hne => cell_J E μ (fun y => ?_))
  · rw [c_iM E _ hr]; simp [pJ, upJ]
  · unfold jOf jRow upJ; unfold iM at hne; by_cases h1 : 224 ≤ k ∧ k < 228
    · rw [if_pos h1, if_pos h1]
      show _ = if _ ∧ _ then _ else _
      have hq : (if k = 224 then 3 else k - 225) ≠ r := by split <;> omega
      rw [if_neg (fun q => hq q.1)]
    · rw [if_neg h1, if_neg h1]
theorem s_M_4 (E : En) (μ : Mu) {r : Nat} (hr : r < 3) (v : Int64) : (wsA E μ).set (iM r) (E.1 (iM r), .inr (1, (fsM E μ r).set 4 (.long v))) = wsA E (pJ μ r 4 v) := by
  refine wsA_set E μ _ (lt_iM hr) ?_ (fun k hk hne => cell_J E μ (fun y => ?_))
  · rw [c_iM E _ hr]; simp [pJ, upJ]
  · unfold jOf jRow upJ; unfold iM at hne; by_cases h1 : 224 ≤ k ∧ k < 228
    · rw [if_pos h1, if_pos h1]
      show _ = if _ ∧ _ then _ else _
      have hq : (if k = 224 then 3 else k - 225) ≠ r := by split <;> omega
      rw [if_neg (fun q => hq q.1)]
    · rw [if_neg h1, if_neg h1]
theorem s_M_5 (E : En) (μ : Mu) {r : Nat} (hr : r < 3) (v : Int64) : (wsA E μ).set (iM r) (E.1 (iM r), .inr (1, (fsM E μ r).set 5 (.long v))) = wsA E (pJ μ r 5 v) := by
  refine wsA_set E μ _ (lt_iM hr) ?_ (fun k hk hne => cell_J E μ (fun y => ?_))
  · rw [c_iM E _ hr]; simp [pJ, upJ]
  · unfold jOf jRow upJ; unfold iM at hne; by_cases h1 : 224 ≤ k ∧ k < 228
    · rw [if_pos h1, if_pos h1]
      show _ = if _ ∧ _ then _ else _
      have hq : (if k = 224 then 3 else k - 225) ≠ r := by split <;> omega
      rw [if_neg (fun q => hq q.1)]
    · rw [if_neg h1, if_neg h1]
theorem s_M_6 (E : En) (μ : Mu) {r : Nat} (hr : r < 3) (v : Int64) : (wsA E μ).set (iM r) (E.1 (iM r), .inr (1, (fsM E μ r).set 6 (.long v))) = wsA E (pJ μ r 6 v) := by
  refine wsA_set E μ _ (lt_iM hr) ?_ (fun k hk hne => cell_J E μ (fun y => ?_))
  · rw [c_iM E _ hr]; simp [pJ, upJ]
  · unfold jOf jRow upJ; unfold iM at hne; by_cases h1 : 224 ≤ k ∧ k < 228
    · rw [if_pos h1, if_pos h1]
      show _ = if _ ∧ _ then _ else _
      have hq : (if k = 224 then 3 else k - 225) ≠ r := by split <;> omega
      rw [if_neg (fun q => hq q.1)]
    · rw [if_neg h1, if_neg h1]
theorem s_M_7 (E : En) (μ : Mu) {r : Nat} (hr : r < 3) (v : Int64) : (wsA E μ).set (iM r) (E.1 (iM r), .inr (1, (fsM E μ r).set 7 (.long v))) = wsA E (pJ μ r 7 v) := by
  refine wsA_set E μ _ (lt_iM hr) ?_ (fun k hk hne => cell_J E μ (fun y => ?_))
  · rw [c_iM E _ hr]; simp [pJ, upJ]
  · unfold jOf jRow upJ; unfold iM at hne; by_cases h1 : 224 ≤ k ∧ k < 228
    · rw [if_pos h1, if_pos h1]
      show _ = if _ ∧ _ then _ else _
      have hq : (if k = 224 then 3 else k - 225) ≠ r := by split <;> omega
      rw [if_neg (fun q => hq q.1)]
    · rw [if_neg h1, if_neg h1]
theorem s_M_8 (E : En) (μ : Mu) {r : Nat} (hr : r < 3) (v : Int64) : (wsA E μ).set (iM r) (E.1 (iM r), .inr (1, (fsM E μ r).set 8 (.long v))) = wsA E (pJ μ r 8 v) := by
  refine wsA_set E μ _ (lt_iM hr) ?_ (fun k hk hne => cell_J E μ (fun y => ?_))
  · rw [c_iM E _ hr]; simp [pJ, upJ]
  · unfold jOf jRow upJ; unfold iM at hne; by_cases h1 : 224 ≤ k ∧ k < 228
    · rw [if_pos h1, if_pos h1]
      show _ = if _ ∧ _ then _ else _
      have hq : (if k = 224 then 3 else k - 225) ≠ r := by split <;> omega
      rw [if_neg (fun q => hq q.1)]
    · rw [if_neg h1, if_neg h1]
theorem s_M_9 (E : En) (μ : Mu) {r : Nat} (hr : r < 3) (v : Int64) : (wsA E μ).set (iM r) (E.1 (iM r), .inr (1, (fsM E μ r).set 9 (.long v))) = wsA E (pJ μ r 9 v) := by
  refine wsA_set E μ _ (lt_iM hr) ?_ (fun k hk hne => cell_J E μ (fun y => ?_))
  · rw [c_iM E _ hr]; simp [pJ, upJ]
  · unfold jOf jRow upJ; unfold iM at hne; by_cases h1 : 224 ≤ k ∧ k < 228
    · rw [if_pos h1, if_pos h1]
      show _ = if _ ∧ _ then _ else _
      have hq : (if k = 224 then 3 else k - 225) ≠ r := by split <;> omega
      rw [if_neg (fun q => hq q.1)]
    · rw [if_neg h1, if_neg h1]
theorem s_M_10 (E : En) (μ : Mu) {r : Nat} (hr : r < 3) (v : Int64) : (wsA E μ).set (iM r) (E.1 (iM r), .inr (1, (fsM E μ r).set 10 (.long v))) = wsA E (pJ μ r 10 v) := by
  refine wsA_set E μ _ (lt_iM hr) ?_ (fun k hk hne => cell_J E μ (fun y => ?_))
  · rw [c_iM E _ hr]; simp [pJ, upJ]
  · unfold jOf jRow upJ; unfold iM at hne; by_cases h1 : 224 ≤ k ∧ k < 228
    · rw [if_pos h1, if_pos h1]
      show _ = if _ ∧ _ then _ else _
      have hq : (if k = 224 then 3 else k - 225) ≠ r := by split <;> omega
      rw [if_neg (fun q => hq q.1)]
    · rw [if_neg h1, if_neg h1]
theorem s_Me_2 (E : En) (μ : Mu) (v : Int64) : (wsA E μ).set 224 (E.1 224, .inr (2, (fsMe E μ).set 2 (.long v))) = wsA E (pJ μ 3 0 v) := by
  refine wsA_set E μ _ (by decide) ?_ (fun k hk hne => cell_J E μ (fun y => ?_))
  · rw [c_Me]; simp [pJ, upJ]
  · unfold jOf jRow upJ; by_cases h1 : 224 ≤ k ∧ k < 228
    · rw [if_pos h1, if_pos h1]
      show _ = if _ ∧ _ then _ else _
      have hq : (if k = 224 then 3 else k - 225) ≠ 3 := by split <;> omega
      rw [if_neg (fun q => hq q.1)]
    · rw [if_neg h1, if_neg h1]
theorem s_iSe (E : En) (μ : Mu) {j : Nat} (hj : j < 6) {x : Nat} (hx : x < 7) (v : Int32) : (wsA E μ).set (iSe j) (E.1 (iSe j), .inl (E.2.2 0, 7, .inl (upd (tr 7 (fun y => μ.1 j (3 + y))) x v))) = wsA E (pM μ j (3 + x) v) := by
  have h := tb_iSe j hj
  refine wsA_pM E μ (lt_iSe hj) (by rw [h]) (by rw [h]; show _ ≤ _; simp only [sF, tD, tR]; omega) (by rw [h]; show _ < _; simp only [sF, tD, tR]; omega) ?_
  rw [c_iSe E _ hj, tr_upd hx]
  congr 4
  funext y
  simp [pM, upM, sF, tD, tR]
theorem s_iTt (E : En) (μ : Mu) {j : Nat} {t : Nat} (hj : j < 6) (ht : t < 3) {x : Nat} (hx : x < 12) (v : Int32) : (wsA E μ).set (iTt j t) (E.1 (iTt j t), .inl (E.2.2 0, 12, .inl (upd (tr 12 (fun y => μ.1 j (tD t y))) x v))) = wsA E (pM μ j (tD t x) v) := by
  have h := tb_iTt j hj t ht
  refine wsA_pM E μ (lt_iTt hj ht) (by rw [h]) (by rw [h]; show _ ≤ _; simp only [sF, tD, tR]; omega) (by rw [h]; show _ < _; simp only [sF, tD, tR]; omega) ?_
  rw [c_iTt E _ hj ht, tr_upd hx]
  congr 4
  funext y
  simp [pM, upM, sF, tD, tR]
theorem s_iTr (E : En) (μ : Mu) {j : Nat} {t : Nat} (hj : j < 6) (ht : t < 3) {x : Nat} (hx : x < 12) (v : Int32) : (wsA E μ).set (iTr j t) (E.1 (iTr j t), .inl (E.2.2 0, 12, .inl (upd (tr 12 (fun y => μ.1 j (tR t y))) x v))) = wsA E (pM μ j (tR t x) v) := by
  have h := tb_iTr j hj t ht
  refine wsA_pM E μ (lt_iTr hj ht) (by rw [h]) (by rw [h]; show _ ≤ _; simp only [sF, tD, tR]; omega) (by rw [h]; show _ < _; simp only [sF, tD, tR]; omega) ?_
  rw [c_iTr E _ hj ht, tr_upd hx]
  congr 4
  funext y
  simp [pM, upM, sF, tD, tR]
theorem s_iNl (E : En) (μ : Mu) {j : Nat} {n : Nat} (hj : j < 6) (hn : n < 6) {x : Nat} (hx : x < 4) (v : Int32) : (wsA E μ).set (iNl j n) (E.1 (iNl j n), .inl (E.2.2 0, 4, .inl (upd (tr 4 (fun y => μ.1 j (sF n (12 + y)))) x v))) = wsA E (pM μ j (sF n (12 + x)) v) := by
  have h := tb_iNl j hj n hn
  refine wsA_pM E μ (lt_iNl hj hn) (by rw [h]) (by rw [h]; show _ ≤ _; simp only [sF, tD, tR]; omega) (by rw [h]; show _ < _; simp only [sF, tD, tR]; omega) ?_
  rw [c_iNl E _ hj hn, tr_upd hx]
  congr 4
  funext y
  simp [pM, upM, sF, tD, tR]
theorem s_iNs (E : En) (μ : Mu) {j : Nat} {n : Nat} (hj : j < 6) (hn : n < 6) {x : Nat} (hx : x < 3) (v : Int32) : (wsA E μ).set (iNs j n) (E.1 (iNs j n), .inl (E.2.2 0, 3, .inl (upd (tr 3 (fun y => μ.1 j (sF n (16 + y)))) x v))) = wsA E (pM μ j (sF n (16 + x)) v) := by
  have h := tb_iNs j hj n hn
  refine wsA_pM E μ (lt_iNs hj hn) (by rw [h]) (by rw [h]; show _ ≤ _; simp only [sF, tD, tR]; omega) (by rw [h]; show _ < _; simp only [sF, tD, tR]; omega) ?_
  rw [c_iNs E _ hj hn, tr_upd hx]
  congr 4
  funext y
  simp [pM, upM, sF, tD, tR]
theorem s_iNr (E : En) (μ : Mu) {j : Nat} {n : Nat} (hj : j < 6) (hn : n < 6) {x : Nat} (hx : x < 9) (v : Int32) : (wsA E μ).set (iNr j n) (E.1 (iNr j n), .inl (E.2.2 0, 9, .inl (upd (tr 9 (fun y => μ.1 j (sF n (19 + y)))) x v))) = wsA E (pM μ j (sF n (19 + x)) v) := by
  have h := tb_iNr j hj n hn
  refine wsA_pM E μ (lt_iNr hj hn) (by rw [h]) (by rw [h]; show _ ≤ _; simp only [sF, tD, tR]; omega) (by rw [h]; show _ < _; simp only [sF, tD, tR]; omega) ?_
  rw [c_iNr E _ hj hn, tr_upd hx]
  congr 4
  funext y
  simp [pM, upM, sF, tD, tR]
theorem s_Tc (E : En) (μ : Mu)   {x : Nat} (hx : x < 60) (v : Int32) : (wsA E μ).set 229 (E.1 229, .inl (E.2.2 1, 60, .inl (upd (tr 60 (fun y => μ.1 6 (8 + y))) x v))) = wsA E (pM μ 6 (8 + x) v) := by
  have h := (show tb 229 = (11, 6, 8, 60) by decide +kernel)
  refine wsA_pM E μ (by decide) (by rw [h]) (by rw [h]; show _ ≤ _; simp only [sF, tD, tR]; omega) (by rw [h]; show _ < _; simp only [sF, tD, tR]; omega) ?_
  rw [c_Tc, tr_upd hx]
  congr 4
  funext y
  simp [pM, upM, sF, tD, tR]
theorem s_So (E : En) (μ : Mu)   {x : Nat} (hx : x < 9) (v : Int32) : (wsA E μ).set 230 (E.1 230, .inl (E.2.2 0, 9, .inl (upd (tr 9 (fun y => μ.1 6 (68 + y))) x v))) = wsA E (pM μ 6 (68 + x) v) := by
  have h := (show tb 230 = (3, 6, 68, 9) by decide +kernel)
  refine wsA_pM E μ (by decide) (by rw [h]) (by rw [h]; show _ ≤ _; simp only [sF, tD, tR]; omega) (by rw [h]; show _ < _; simp only [sF, tD, tR]; omega) ?_
  rw [c_So, tr_upd hx]
  congr 4
  funext y
  simp [pM, upM, sF, tD, tR]
theorem s_Rs (E : En) (μ : Mu)   {x : Nat} (hx : x < 259) (v : Int32) : (wsA E μ).set 233 (E.1 233, .inl (E.2.2 0, 259, .inl (upd (tr 259 (fun y => μ.1 8 y)) x v))) = wsA E (pM μ 8 (x) v) := by
  have h := (show tb 233 = (3, 8, 0, 259) by decide +kernel)
  refine wsA_pM E μ (by decide) (by rw [h]) (by rw [h]; show _ ≤ _; simp only [sF, tD, tR]; omega) (by rw [h]; show _ < _; simp only [sF, tD, tR]; omega) ?_
  rw [c_Rs, tr_upd hx]
  congr 4
  funext y
  simp [pM, upM, sF, tD, tR]
theorem s_Rw (E : En) (μ : Mu)   {x : Nat} (hx : x < 1036) (v : Int32) : (wsA E μ).set 234 (E.1 234, .inl (E.2.2 0, 1036, .inl (upd (tr 1036 (fun y => μ.1 9 y)) x v))) = wsA E (pM μ 9 (x) v) := by
  have h := (show tb 234 = (3, 9, 0, 1036) by decide +kernel)
  refine wsA_pM E μ (by decide) (by rw [h]) (by rw [h]; show _ ≤ _; simp only [sF, tD, tR]; omega) (by rw [h]; show _ < _; simp only [sF, tD, tR]; omega) ?_
  rw [c_Rw, tr_upd hx]
  congr 4
  funext y
  simp [pM, upM, sF, tD, tR]
theorem s_Ra (E : En) (μ : Mu)   {x : Nat} (hx : x < 259) (v : Int32) : (wsA E μ).set 235 (E.1 235, .inl (E.2.2 0, 259, .inl (upd (tr 259 (fun y => μ.1 10 y)) x v))) = wsA E (pM μ 10 (x) v) := by
  have h := (show tb 235 = (3, 10, 0, 259) by decide +kernel)
  refine wsA_pM E μ (by decide) (by rw [h]) (by rw [h]; show _ ≤ _; simp only [sF, tD, tR]; omega) (by rw [h]; show _ < _; simp only [sF, tD, tR]; omega) ?_
  rw [c_Ra, tr_upd hx]
  congr 4
  funext y
  simp [pM, upM, sF, tD, tR]
theorem s_Rb (E : En) (μ : Mu)   {x : Nat} (hx : x < 259) (v : Int32) : (wsA E μ).set 236 (E.1 236, .inl (E.2.2 0, 259, .inl (upd (tr 259 (fun y => μ.1 11 y)) x v))) = wsA E (pM μ 11 (x) v) := by
  have h := (show tb 236 = (3, 11, 0, 259) by decide +kernel)
  refine wsA_pM E μ (by decide) (by rw [h]) (by rw [h]; show _ ≤ _; simp only [sF, tD, tR]; omega) (by rw [h]; show _ < _; simp only [sF, tD, tR]; omega) ?_
  rw [c_Rb, tr_upd hx]
  congr 4
  funext y
  simp [pM, upM, sF, tD, tR]
theorem s_Rt (E : En) (μ : Mu)   {x : Nat} (hx : x < 60) (v : Int32) : (wsA E μ).set 237 (E.1 237, .inl (E.2.2 1, 60, .inl (upd (tr 60 (fun y => μ.1 12 y)) x v))) = wsA E (pM μ 12 (x) v) := by
  have h := (show tb 237 = (11, 12, 0, 60) by decide +kernel)
  refine wsA_pM E μ (by decide) (by rw [h]) (by rw [h]; show _ ≤ _; simp only [sF, tD, tR]; omega) (by rw [h]; show _ < _; simp only [sF, tD, tR]; omega) ?_
  rw [c_Rt, tr_upd hx]
  congr 4
  funext y
  simp [pM, upM, sF, tD, tR]
theorem s_Rg (E : En) (μ : Mu)   {x : Nat} (hx : x < 2) (v : Int32) : (wsA E μ).set 238 (E.1 238, .inl (E.2.2 0, 2, .inl (upd (tr 2 (fun y => μ.1 13 y)) x v))) = wsA E (pM μ 13 (x) v) := by
  have h := (show tb 238 = (3, 13, 0, 2) by decide +kernel)
  refine wsA_pM E μ (by decide) (by rw [h]) (by rw [h]; show _ ≤ _; simp only [sF, tD, tR]; omega) (by rw [h]; show _ < _; simp only [sF, tD, tR]; omega) ?_
  rw [c_Rg, tr_upd hx]
  congr 4
  funext y
  simp [pM, upM, sF, tD, tR]
theorem s_Ro (E : En) (μ : Mu)   {x : Nat} (hx : x < 9) (v : Int32) : (wsA E μ).set 239 (E.1 239, .inl (E.2.2 0, 9, .inl (upd (tr 9 (fun y => μ.1 14 y)) x v))) = wsA E (pM μ 14 (x) v) := by
  have h := (show tb 239 = (3, 14, 0, 9) by decide +kernel)
  refine wsA_pM E μ (by decide) (by rw [h]) (by rw [h]; show _ ≤ _; simp only [sF, tD, tR]; omega) (by rw [h]; show _ < _; simp only [sF, tD, tR]; omega) ?_
  rw [c_Ro, tr_upd hx]
  congr 4
  funext y
  simp [pM, upM, sF, tD, tR]
theorem s_Hk (E : En) (μ : Mu) {x : Nat} (hx : x < 4) (w : Nat) : (wsA E μ).set 223 (E.1 223, .inl (E.2.2 4, 4, .inr (.inr (.inr (.inr (va_up (fun y => if y < 4 then some (E.1 (iS (μ.2.2 y))) else none) x (some (E.1 (iS w)))))))) ) = wsA E (pK μ x w) := by
  refine wsA_set E μ _ (by decide) ?_ (fun k hk hne => ?_)
  · rw [c_Hk]
    have hf : (va_up (fun y => if y < 4 then some (E.1 (iS (μ.2.2 y))) else none) x (some (E.1 (iS w)))) = (fun y => if y < 4 then some (E.1 (iS ((pK μ x w).2.2 y))) else none) := by
      funext y
      unfold va_up pK va_up
      by_cases hy : y = x
      · subst hy; simp [hx]
      · simp [hy]
    rw [hf]
  · unfold cell
    rw [show kOf μ.2.2 k = kOf (pK μ x w).2.2 k by unfold kOf; rw [if_neg hne, if_neg hne]]
    rfl
end
