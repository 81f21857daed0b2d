section
-- ===== PART A: goes FIRST, ahead of the names: the tables' words, and 'selects' of the private methods out of them =====
/-- a private method of a class that the tables say can be made, by its rows of tables_1 -/
def lw_okq (q : MethodName × Nat) : Prop := (q.1.cls ≠ "java/lang/invoke/MethodHandle" ∧ q.1.cls ≠ "java/lang/invoke/VarHandle") ∧ Cond.instantiable q.1.cls q.2 ∈ tables_1 ∧ Cond.privateMethod q.1 ∈ tables_1 ∧ Cond.instanceMethod q.1 ∈ tables_1
theorem lw_p0 : lw_okq (⟨"java/lang/Throwable", "fillInStackTrace", "(I)Ljava/lang/Throwable;"⟩, 6) := ⟨⟨by decide +kernel, by decide +kernel⟩, List.mem_of_getElem? (i := 551) (by decide +kernel), List.mem_of_getElem? (i := 549) (by decide +kernel), List.mem_of_getElem? (i := 550) (by decide +kernel)⟩
theorem lw_p1 : lw_okq (⟨"DrystoneSimnet", "needPort", "(I)V"⟩, 7) := ⟨⟨by decide +kernel, by decide +kernel⟩, List.mem_of_getElem? (i := 24) (by decide +kernel), List.mem_of_getElem? (i := 612) (by decide +kernel), List.mem_of_getElem? (i := 613) (by decide +kernel)⟩
theorem lw_p2 : lw_okq (⟨"DrystoneSimnet", "takeNewWiring", "()V"⟩, 7) := ⟨⟨by decide +kernel, by decide +kernel⟩, List.mem_of_getElem? (i := 24) (by decide +kernel), List.mem_of_getElem? (i := 651) (by decide +kernel), List.mem_of_getElem? (i := 652) (by decide +kernel)⟩
theorem lw_p3 : lw_okq (⟨"DrystoneSimnet$Wiring", "measureDistances", "()V"⟩, 11) := ⟨⟨by decide +kernel, by decide +kernel⟩, List.mem_of_getElem? (i := 32) (by decide +kernel), List.mem_of_getElem? (i := 659) (by decide +kernel), List.mem_of_getElem? (i := 660) (by decide +kernel)⟩
theorem lw_p4 : lw_okq (⟨"DrystoneSimnet$Wiring", "spreadDistances", "()V"⟩, 11) := ⟨⟨by decide +kernel, by decide +kernel⟩, List.mem_of_getElem? (i := 32) (by decide +kernel), List.mem_of_getElem? (i := 663) (by decide +kernel), List.mem_of_getElem? (i := 664) (by decide +kernel)⟩
theorem lw_p5 : lw_okq (⟨"DrystoneSimnet$Wiring", "isWholeLink", "(I)Z"⟩, 11) := ⟨⟨by decide +kernel, by decide +kernel⟩, List.mem_of_getElem? (i := 32) (by decide +kernel), List.mem_of_getElem? (i := 667) (by decide +kernel), List.mem_of_getElem? (i := 668) (by decide +kernel)⟩
theorem lw_p6 : lw_okq (⟨"DrystoneSimnet$Wiring", "spreadOve\x72", "(III)V"⟩, 11) := ⟨⟨by decide +kernel, by decide +kernel⟩, List.mem_of_getElem? (i := 32) (by decide +kernel), List.mem_of_getElem? (i := 671) (by decide +kernel), List.mem_of_getElem? (i := 672) (by decide +kernel)⟩
theorem lw_p7 : lw_okq (⟨"DrystoneSimnet$Wiring", "offerTowardsRoot", "(III)V"⟩, 11) := ⟨⟨by decide +kernel, by decide +kernel⟩, List.mem_of_getElem? (i := 32) (by decide +kernel), List.mem_of_getElem? (i := 675) (by decide +kernel), List.mem_of_getElem? (i := 676) (by decide +kernel)⟩
theorem lw_p8 : lw_okq (⟨"DrystoneSimnet$Wiring", "neighbourBy", "(II)I"⟩, 11) := ⟨⟨by decide +kernel, by decide +kernel⟩, List.mem_of_getElem? (i := 32) (by decide +kernel), List.mem_of_getElem? (i := 679) (by decide +kernel), List.mem_of_getElem? (i := 680) (by decide +kernel)⟩
theorem lw_p9 : lw_okq (⟨"DrystoneSimnet", "takeNewSight", "()V"⟩, 7) := ⟨⟨by decide +kernel, by decide +kernel⟩, List.mem_of_getElem? (i := 24) (by decide +kernel), List.mem_of_getElem? (i := 683) (by decide +kernel), List.mem_of_getElem? (i := 684) (by decide +kernel)⟩
theorem lw_p10 : lw_okq (⟨"DrystoneSimnet", "needCable", "(I)V"⟩, 7) := ⟨⟨by decide +kernel, by decide +kernel⟩, List.mem_of_getElem? (i := 24) (by decide +kernel), List.mem_of_getElem? (i := 702) (by decide +kernel), List.mem_of_getElem? (i := 703) (by decide +kernel)⟩
theorem lw_p11 : lw_okq (⟨"DrystoneSimnet$Sight", "floodFrom", "(I)J"⟩, 6) := ⟨⟨by decide +kernel, by decide +kernel⟩, List.mem_of_getElem? (i := 83) (by decide +kernel), List.mem_of_getElem? (i := 739) (by decide +kernel), List.mem_of_getElem? (i := 740) (by decide +kernel)⟩
theorem lw_p12 : lw_okq (⟨"DrystoneSimnet", "needBox", "(I)V"⟩, 7) := ⟨⟨by decide +kernel, by decide +kernel⟩, List.mem_of_getElem? (i := 24) (by decide +kernel), List.mem_of_getElem? (i := 783) (by decide +kernel), List.mem_of_getElem? (i := 784) (by decide +kernel)⟩
theorem lw_p13 : lw_okq (⟨"DrystoneSimnet$Traffic", "end", "(LDrystoneSimnet$Frame;II)V"⟩, 19) := ⟨⟨by decide +kernel, by decide +kernel⟩, List.mem_of_getElem? (i := 288) (by decide +kernel), List.mem_of_getElem? (i := 874) (by decide +kernel), List.mem_of_getElem? (i := 875) (by decide +kernel)⟩
theorem lw_p14 : lw_okq (⟨"DrystoneSimnet$Traffic", "putOnHop", "(LDrystoneSimnet$Frame;I)V"⟩, 19) := ⟨⟨by decide +kernel, by decide +kernel⟩, List.mem_of_getElem? (i := 288) (by decide +kernel), List.mem_of_getElem? (i := 878) (by decide +kernel), List.mem_of_getElem? (i := 879) (by decide +kernel)⟩
theorem lw_p15 : lw_okq (⟨"DrystoneSimnet$Traffic", "put", "(LDrystoneSimnet$Frame;II)V"⟩, 19) := ⟨⟨by decide +kernel, by decide +kernel⟩, List.mem_of_getElem? (i := 288) (by decide +kernel), List.mem_of_getElem? (i := 882) (by decide +kernel), List.mem_of_getElem? (i := 883) (by decide +kernel)⟩
def lw_privs_1 : List (MethodName × Nat) := [(⟨"java/lang/Throwable", "fillInStackTrace", "(I)Ljava/lang/Throwable;"⟩, 6), (⟨"DrystoneSimnet", "needPort", "(I)V"⟩, 7), (⟨"DrystoneSimnet", "takeNewWiring", "()V"⟩, 7), (⟨"DrystoneSimnet$Wiring", "measureDistances", "()V"⟩, 11), (⟨"DrystoneSimnet$Wiring", "spreadDistances", "()V"⟩, 11), (⟨"DrystoneSimnet$Wiring", "isWholeLink", "(I)Z"⟩, 11), (⟨"DrystoneSimnet$Wiring", "spreadOve\x72", "(III)V"⟩, 11), (⟨"DrystoneSimnet$Wiring", "offerTowardsRoot", "(III)V"⟩, 11), (⟨"DrystoneSimnet$Wiring", "neighbourBy", "(II)I"⟩, 11), (⟨"DrystoneSimnet", "takeNewSight", "()V"⟩, 7), (⟨"DrystoneSimnet", "needCable", "(I)V"⟩, 7), (⟨"DrystoneSimnet$Sight", "floodFrom", "(I)J"⟩, 6), (⟨"DrystoneSimnet", "needBox", "(I)V"⟩, 7), (⟨"DrystoneSimnet$Traffic", "end", "(LDrystoneSimnet$Frame;II)V"⟩, 19), (⟨"DrystoneSimnet$Traffic", "putOnHop", "(LDrystoneSimnet$Frame;I)V"⟩, 19), (⟨"DrystoneSimnet$Traffic", "put", "(LDrystoneSimnet$Frame;II)V"⟩, 19)]
theorem lw_r1 : ∀ q ∈ lw_privs_1, lw_okq q := List.forall_mem_cons.mpr ⟨lw_p0, List.forall_mem_cons.mpr ⟨lw_p1, List.forall_mem_cons.mpr ⟨lw_p2, List.forall_mem_cons.mpr ⟨lw_p3, List.forall_mem_cons.mpr ⟨lw_p4, List.forall_mem_cons.mpr ⟨lw_p5, List.forall_mem_cons.mpr ⟨lw_p6, List.forall_mem_cons.mpr ⟨lw_p7, List.forall_mem_cons.mpr ⟨lw_p8, List.forall_mem_cons.mpr ⟨lw_p9, List.forall_mem_cons.mpr ⟨lw_p10, List.forall_mem_cons.mpr ⟨lw_p11, List.forall_mem_cons.mpr ⟨lw_p12, List.forall_mem_cons.mpr ⟨lw_p13, List.forall_mem_cons.mpr ⟨lw_p14, List.forall_mem_cons.mpr ⟨lw_p15, fun _ h => absurd h List.not_mem_nil⟩⟩⟩⟩⟩⟩⟩⟩⟩⟩⟩⟩⟩⟩⟩⟩
theorem lw_p16 : lw_okq (⟨"DrystoneSimnet$Traffic", "loseIfGone", "(I)V"⟩, 19) := ⟨⟨by decide +kernel, by decide +kernel⟩, List.mem_of_getElem? (i := 288) (by decide +kernel), List.mem_of_getElem? (i := 890) (by decide +kernel), List.mem_of_getElem? (i := 891) (by decide +kernel)⟩
theorem lw_p17 : lw_okq (⟨"DrystoneSimnet$Routing", "learnOnce", "(LDrystoneSimnet$Tables;)V"⟩, 9) := ⟨⟨by decide +kernel, by decide +kernel⟩, List.mem_of_getElem? (i := 228) (by decide +kernel), List.mem_of_getElem? (i := 909) (by decide +kernel), List.mem_of_getElem? (i := 910) (by decide +kernel)⟩
theorem lw_p18 : lw_okq (⟨"DrystoneSimnet$Routing", "listenAround", "(LDrystoneSimnet$Tables;I)V"⟩, 9) := ⟨⟨by decide +kernel, by decide +kernel⟩, List.mem_of_getElem? (i := 228) (by decide +kernel), List.mem_of_getElem? (i := 918) (by decide +kernel), List.mem_of_getElem? (i := 919) (by decide +kernel)⟩
theorem lw_p19 : lw_okq (⟨"DrystoneSimnet$Routing", "hea\x72", "(LDrystoneSimnet$Tables;II)V"⟩, 9) := ⟨⟨by decide +kernel, by decide +kernel⟩, List.mem_of_getElem? (i := 228) (by decide +kernel), List.mem_of_getElem? (i := 923) (by decide +kernel), List.mem_of_getElem? (i := 924) (by decide +kernel)⟩
theorem lw_p20 : lw_okq (⟨"DrystoneSimnet$Traffic", "arrive", "(LDrystoneSimnet$Frame;)V"⟩, 19) := ⟨⟨by decide +kernel, by decide +kernel⟩, List.mem_of_getElem? (i := 288) (by decide +kernel), List.mem_of_getElem? (i := 941) (by decide +kernel), List.mem_of_getElem? (i := 942) (by decide +kernel)⟩
theorem lw_p21 : lw_okq (⟨"DrystoneSimnet$Traffic", "crossBridge", "(LDrystoneSimnet$Frame;I)V"⟩, 19) := ⟨⟨by decide +kernel, by decide +kernel⟩, List.mem_of_getElem? (i := 288) (by decide +kernel), List.mem_of_getElem? (i := 947) (by decide +kernel), List.mem_of_getElem? (i := 948) (by decide +kernel)⟩
theorem lw_p22 : lw_okq (⟨"DrystoneSimnet$Traffic", "comeToRoute\x72", "(LDrystoneSimnet$Frame;I)V"⟩, 19) := ⟨⟨by decide +kernel, by decide +kernel⟩, List.mem_of_getElem? (i := 288) (by decide +kernel), List.mem_of_getElem? (i := 958) (by decide +kernel), List.mem_of_getElem? (i := 959) (by decide +kernel)⟩
theorem lw_p23 : lw_okq (⟨"DrystoneSimnet$Pool", "isFree", "(II)Z"⟩, 4) := ⟨⟨by decide +kernel, by decide +kernel⟩, List.mem_of_getElem? (i := 148) (by decide +kernel), List.mem_of_getElem? (i := 974) (by decide +kernel), List.mem_of_getElem? (i := 975) (by decide +kernel)⟩
theorem lw_p24 : lw_okq (⟨"DrystoneSimnet$Traffic", "passesRules", "(LDrystoneSimnet$Frame;I)Z"⟩, 19) := ⟨⟨by decide +kernel, by decide +kernel⟩, List.mem_of_getElem? (i := 288) (by decide +kernel), List.mem_of_getElem? (i := 982) (by decide +kernel), List.mem_of_getElem? (i := 983) (by decide +kernel)⟩
theorem lw_p25 : lw_okq (⟨"DrystoneSimnet$Traffic", "sendOn", "(LDrystoneSimnet$Frame;I)V"⟩, 19) := ⟨⟨by decide +kernel, by decide +kernel⟩, List.mem_of_getElem? (i := 288) (by decide +kernel), List.mem_of_getElem? (i := 1007) (by decide +kernel), List.mem_of_getElem? (i := 1008) (by decide +kernel)⟩
theorem lw_p26 : lw_okq (⟨"DrystoneSimnet$Pool", "placeOf", "(II)I"⟩, 4) := ⟨⟨by decide +kernel, by decide +kernel⟩, List.mem_of_getElem? (i := 148) (by decide +kernel), List.mem_of_getElem? (i := 1042) (by decide +kernel), List.mem_of_getElem? (i := 1043) (by decide +kernel)⟩
theorem lw_p27 : lw_okq (⟨"DrystoneSimnet", "needPacket", "(I)V"⟩, 7) := ⟨⟨by decide +kernel, by decide +kernel⟩, List.mem_of_getElem? (i := 24) (by decide +kernel), List.mem_of_getElem? (i := 1053) (by decide +kernel), List.mem_of_getElem? (i := 1054) (by decide +kernel)⟩
theorem lw_p28 : lw_okq (⟨"DrystoneSimnet$Proofs", "startFrom", "(I)V"⟩, 17) := ⟨⟨by decide +kernel, by decide +kernel⟩, List.mem_of_getElem? (i := 417) (by decide +kernel), List.mem_of_getElem? (i := 1114) (by decide +kernel), List.mem_of_getElem? (i := 1115) (by decide +kernel)⟩
theorem lw_p29 : lw_okq (⟨"DrystoneSimnet$Proofs", "splitOff", "(II)Z"⟩, 17) := ⟨⟨by decide +kernel, by decide +kernel⟩, List.mem_of_getElem? (i := 417) (by decide +kernel), List.mem_of_getElem? (i := 1123) (by decide +kernel), List.mem_of_getElem? (i := 1124) (by decide +kernel)⟩
theorem lw_p30 : lw_okq (⟨"DrystoneSimnet$Proofs", "sendToEach", "(II)V"⟩, 17) := ⟨⟨by decide +kernel, by decide +kernel⟩, List.mem_of_getElem? (i := 417) (by decide +kernel), List.mem_of_getElem? (i := 1131) (by decide +kernel), List.mem_of_getElem? (i := 1132) (by decide +kernel)⟩
theorem lw_p31 : lw_okq (⟨"DrystoneSimnet$Proofs", "arrive", "(IIJ)V"⟩, 17) := ⟨⟨by decide +kernel, by decide +kernel⟩, List.mem_of_getElem? (i := 417) (by decide +kernel), List.mem_of_getElem? (i := 1136) (by decide +kernel), List.mem_of_getElem? (i := 1137) (by decide +kernel)⟩
def lw_privs_2 : List (MethodName × Nat) := [(⟨"DrystoneSimnet$Traffic", "loseIfGone", "(I)V"⟩, 19), (⟨"DrystoneSimnet$Routing", "learnOnce", "(LDrystoneSimnet$Tables;)V"⟩, 9), (⟨"DrystoneSimnet$Routing", "listenAround", "(LDrystoneSimnet$Tables;I)V"⟩, 9), (⟨"DrystoneSimnet$Routing", "hea\x72", "(LDrystoneSimnet$Tables;II)V"⟩, 9), (⟨"DrystoneSimnet$Traffic", "arrive", "(LDrystoneSimnet$Frame;)V"⟩, 19), (⟨"DrystoneSimnet$Traffic", "crossBridge", "(LDrystoneSimnet$Frame;I)V"⟩, 19), (⟨"DrystoneSimnet$Traffic", "comeToRoute\x72", "(LDrystoneSimnet$Frame;I)V"⟩, 19), (⟨"DrystoneSimnet$Pool", "isFree", "(II)Z"⟩, 4), (⟨"DrystoneSimnet$Traffic", "passesRules", "(LDrystoneSimnet$Frame;I)Z"⟩, 19), (⟨"DrystoneSimnet$Traffic", "sendOn", "(LDrystoneSimnet$Frame;I)V"⟩, 19), (⟨"DrystoneSimnet$Pool", "placeOf", "(II)I"⟩, 4), (⟨"DrystoneSimnet", "needPacket", "(I)V"⟩, 7), (⟨"DrystoneSimnet$Proofs", "startFrom", "(I)V"⟩, 17), (⟨"DrystoneSimnet$Proofs", "splitOff", "(II)Z"⟩, 17), (⟨"DrystoneSimnet$Proofs", "sendToEach", "(II)V"⟩, 17), (⟨"DrystoneSimnet$Proofs", "arrive", "(IIJ)V"⟩, 17)]
theorem lw_r2 : ∀ q ∈ lw_privs_2, lw_okq q := List.forall_mem_cons.mpr ⟨lw_p16, List.forall_mem_cons.mpr ⟨lw_p17, List.forall_mem_cons.mpr ⟨lw_p18, List.forall_mem_cons.mpr ⟨lw_p19, List.forall_mem_cons.mpr ⟨lw_p20, List.forall_mem_cons.mpr ⟨lw_p21, List.forall_mem_cons.mpr ⟨lw_p22, List.forall_mem_cons.mpr ⟨lw_p23, List.forall_mem_cons.mpr ⟨lw_p24, List.forall_mem_cons.mpr ⟨lw_p25, List.forall_mem_cons.mpr ⟨lw_p26, List.forall_mem_cons.mpr ⟨lw_p27, List.forall_mem_cons.mpr ⟨lw_p28, List.forall_mem_cons.mpr ⟨lw_p29, List.forall_mem_cons.mpr ⟨lw_p30, List.forall_mem_cons.mpr ⟨lw_p31, fun _ h => absurd h List.not_mem_nil⟩⟩⟩⟩⟩⟩⟩⟩⟩⟩⟩⟩⟩⟩⟩⟩
theorem lw_p32 : lw_okq (⟨"DrystoneSimnet$Proofs", "join", "(IJ)V"⟩, 17) := ⟨⟨by decide +kernel, by decide +kernel⟩, List.mem_of_getElem? (i := 417) (by decide +kernel), List.mem_of_getElem? (i := 1142) (by decide +kernel), List.mem_of_getElem? (i := 1143) (by decide +kernel)⟩
theorem lw_p33 : lw_okq (⟨"DrystoneSimnet$Proofs", "ownAddresses", "(I)J"⟩, 17) := ⟨⟨by decide +kernel, by decide +kernel⟩, List.mem_of_getElem? (i := 417) (by decide +kernel), List.mem_of_getElem? (i := 1146) (by decide +kernel), List.mem_of_getElem? (i := 1147) (by decide +kernel)⟩
theorem lw_p34 : lw_okq (⟨"DrystoneSimnet$Proofs", "sendTogethe\x72", "(II)V"⟩, 17) := ⟨⟨by decide +kernel, by decide +kernel⟩, List.mem_of_getElem? (i := 417) (by decide +kernel), List.mem_of_getElem? (i := 1157) (by decide +kernel), List.mem_of_getElem? (i := 1158) (by decide +kernel)⟩
theorem lw_p35 : lw_okq (⟨"DrystoneSimnet$Proofs", "turnToComing", "()V"⟩, 17) := ⟨⟨by decide +kernel, by decide +kernel⟩, List.mem_of_getElem? (i := 417) (by decide +kernel), List.mem_of_getElem? (i := 1161) (by decide +kernel), List.mem_of_getElem? (i := 1162) (by decide +kernel)⟩
theorem lw_p36 : lw_okq (⟨"DrystoneSimnet$Proofs", "takeHeaders", "(I)V"⟩, 17) := ⟨⟨by decide +kernel, by decide +kernel⟩, List.mem_of_getElem? (i := 417) (by decide +kernel), List.mem_of_getElem? (i := 1165) (by decide +kernel), List.mem_of_getElem? (i := 1166) (by decide +kernel)⟩
theorem lw_p37 : lw_okq (⟨"DrystoneSimnet$Proofs", "delive\x72", "([JJI)V"⟩, 17) := ⟨⟨by decide +kernel, by decide +kernel⟩, List.mem_of_getElem? (i := 417) (by decide +kernel), List.mem_of_getElem? (i := 1169) (by decide +kernel), List.mem_of_getElem? (i := 1170) (by decide +kernel)⟩
theorem lw_p38 : lw_okq (⟨"DrystoneSimnet$Proofs", "filte\x72", "(LDrystoneSimnet$Router;I)V"⟩, 17) := ⟨⟨by decide +kernel, by decide +kernel⟩, List.mem_of_getElem? (i := 417) (by decide +kernel), List.mem_of_getElem? (i := 1173) (by decide +kernel), List.mem_of_getElem? (i := 1174) (by decide +kernel)⟩
theorem lw_p39 : lw_okq (⟨"DrystoneSimnet$Proofs", "sendOn", "(II)V"⟩, 17) := ⟨⟨by decide +kernel, by decide +kernel⟩, List.mem_of_getElem? (i := 417) (by decide +kernel), List.mem_of_getElem? (i := 1178) (by decide +kernel), List.mem_of_getElem? (i := 1179) (by decide +kernel)⟩
theorem lw_p40 : lw_okq (⟨"DrystoneSimnet$Proofs", "sendByConnected", "(III)V"⟩, 17) := ⟨⟨by decide +kernel, by decide +kernel⟩, List.mem_of_getElem? (i := 417) (by decide +kernel), List.mem_of_getElem? (i := 1182) (by decide +kernel), List.mem_of_getElem? (i := 1183) (by decide +kernel)⟩
theorem lw_p41 : lw_okq (⟨"DrystoneSimnet$Proofs", "sendByTold", "(III)V"⟩, 17) := ⟨⟨by decide +kernel, by decide +kernel⟩, List.mem_of_getElem? (i := 417) (by decide +kernel), List.mem_of_getElem? (i := 1190) (by decide +kernel), List.mem_of_getElem? (i := 1191) (by decide +kernel)⟩
theorem lw_p42 : lw_okq (⟨"DrystoneSimnet$Proofs", "sendByLearnt", "(III)V"⟩, 17) := ⟨⟨by decide +kernel, by decide +kernel⟩, List.mem_of_getElem? (i := 417) (by decide +kernel), List.mem_of_getElem? (i := 1196) (by decide +kernel), List.mem_of_getElem? (i := 1197) (by decide +kernel)⟩
theorem lw_p43 : lw_okq (⟨"DrystoneSimnet$Proofs", "fateAt", "(IIII)I"⟩, 17) := ⟨⟨by decide +kernel, by decide +kernel⟩, List.mem_of_getElem? (i := 417) (by decide +kernel), List.mem_of_getElem? (i := 1218) (by decide +kernel), List.mem_of_getElem? (i := 1219) (by decide +kernel)⟩
theorem lw_p44 : lw_okq (⟨"DrystoneSimnetModel", "can", "(I)Z"⟩, 47) := ⟨⟨by decide +kernel, by decide +kernel⟩, List.mem_of_getElem? (i := 1245) (by decide +kernel), List.mem_of_getElem? (i := 1404) (by decide +kernel), List.mem_of_getElem? (i := 1405) (by decide +kernel)⟩
theorem lw_p45 : lw_okq (⟨"DrystoneSimnetModel", "isPort", "(I)Z"⟩, 47) := ⟨⟨by decide +kernel, by decide +kernel⟩, List.mem_of_getElem? (i := 1245) (by decide +kernel), List.mem_of_getElem? (i := 1412) (by decide +kernel), List.mem_of_getElem? (i := 1413) (by decide +kernel)⟩
theorem lw_p46 : lw_okq (⟨"DrystoneSimnetModel", "isBox", "(I)Z"⟩, 47) := ⟨⟨by decide +kernel, by decide +kernel⟩, List.mem_of_getElem? (i := 1245) (by decide +kernel), List.mem_of_getElem? (i := 1416) (by decide +kernel), List.mem_of_getElem? (i := 1417) (by decide +kernel)⟩
theorem lw_p47 : lw_okq (⟨"DrystoneSimnetModel", "isCable", "(I)Z"⟩, 47) := ⟨⟨by decide +kernel, by decide +kernel⟩, List.mem_of_getElem? (i := 1245) (by decide +kernel), List.mem_of_getElem? (i := 1424) (by decide +kernel), List.mem_of_getElem? (i := 1425) (by decide +kernel)⟩
def lw_privs_3 : List (MethodName × Nat) := [(⟨"DrystoneSimnet$Proofs", "join", "(IJ)V"⟩, 17), (⟨"DrystoneSimnet$Proofs", "ownAddresses", "(I)J"⟩, 17), (⟨"DrystoneSimnet$Proofs", "sendTogethe\x72", "(II)V"⟩, 17), (⟨"DrystoneSimnet$Proofs", "turnToComing", "()V"⟩, 17), (⟨"DrystoneSimnet$Proofs", "takeHeaders", "(I)V"⟩, 17), (⟨"DrystoneSimnet$Proofs", "delive\x72", "([JJI)V"⟩, 17), (⟨"DrystoneSimnet$Proofs", "filte\x72", "(LDrystoneSimnet$Router;I)V"⟩, 17), (⟨"DrystoneSimnet$Proofs", "sendOn", "(II)V"⟩, 17), (⟨"DrystoneSimnet$Proofs", "sendByConnected", "(III)V"⟩, 17), (⟨"DrystoneSimnet$Proofs", "sendByTold", "(III)V"⟩, 17), (⟨"DrystoneSimnet$Proofs", "sendByLearnt", "(III)V"⟩, 17), (⟨"DrystoneSimnet$Proofs", "fateAt", "(IIII)I"⟩, 17), (⟨"DrystoneSimnetModel", "can", "(I)Z"⟩, 47), (⟨"DrystoneSimnetModel", "isPort", "(I)Z"⟩, 47), (⟨"DrystoneSimnetModel", "isBox", "(I)Z"⟩, 47), (⟨"DrystoneSimnetModel", "isCable", "(I)Z"⟩, 47)]
theorem lw_r3 : ∀ q ∈ lw_privs_3, lw_okq q := List.forall_mem_cons.mpr ⟨lw_p32, List.forall_mem_cons.mpr ⟨lw_p33, List.forall_mem_cons.mpr ⟨lw_p34, List.forall_mem_cons.mpr ⟨lw_p35, List.forall_mem_cons.mpr ⟨lw_p36, List.forall_mem_cons.mpr ⟨lw_p37, List.forall_mem_cons.mpr ⟨lw_p38, List.forall_mem_cons.mpr ⟨lw_p39, List.forall_mem_cons.mpr ⟨lw_p40, List.forall_mem_cons.mpr ⟨lw_p41, List.forall_mem_cons.mpr ⟨lw_p42, List.forall_mem_cons.mpr ⟨lw_p43, List.forall_mem_cons.mpr ⟨lw_p44, List.forall_mem_cons.mpr ⟨lw_p45, List.forall_mem_cons.mpr ⟨lw_p46, List.forall_mem_cons.mpr ⟨lw_p47, fun _ h => absurd h List.not_mem_nil⟩⟩⟩⟩⟩⟩⟩⟩⟩⟩⟩⟩⟩⟩⟩⟩
theorem lw_p48 : lw_okq (⟨"DrystoneSimnetModel", "grows", "()V"⟩, 47) := ⟨⟨by decide +kernel, by decide +kernel⟩, List.mem_of_getElem? (i := 1245) (by decide +kernel), List.mem_of_getElem? (i := 1432) (by decide +kernel), List.mem_of_getElem? (i := 1433) (by decide +kernel)⟩
theorem lw_p49 : lw_okq (⟨"DrystoneSimnetModel", "isBetweenBridges", "(I)Z"⟩, 47) := ⟨⟨by decide +kernel, by decide +kernel⟩, List.mem_of_getElem? (i := 1245) (by decide +kernel), List.mem_of_getElem? (i := 1436) (by decide +kernel), List.mem_of_getElem? (i := 1437) (by decide +kernel)⟩
theorem lw_p50 : lw_okq (⟨"DrystoneSimnetModel", "kindAt", "(I)I"⟩, 47) := ⟨⟨by decide +kernel, by decide +kernel⟩, List.mem_of_getElem? (i := 1245) (by decide +kernel), List.mem_of_getElem? (i := 1440) (by decide +kernel), List.mem_of_getElem? (i := 1441) (by decide +kernel)⟩
theorem lw_p51 : lw_okq (⟨"DrystoneSimnetModel", "upwards", "(I)I"⟩, 47) := ⟨⟨by decide +kernel, by decide +kernel⟩, List.mem_of_getElem? (i := 1245) (by decide +kernel), List.mem_of_getElem? (i := 1444) (by decide +kernel), List.mem_of_getElem? (i := 1445) (by decide +kernel)⟩
theorem lw_p52 : lw_okq (⟨"DrystoneSimnetModel", "surveys", "()V"⟩, 47) := ⟨⟨by decide +kernel, by decide +kernel⟩, List.mem_of_getElem? (i := 1245) (by decide +kernel), List.mem_of_getElem? (i := 1456) (by decide +kernel), List.mem_of_getElem? (i := 1457) (by decide +kernel)⟩
theorem lw_p53 : lw_okq (⟨"DrystoneSimnetModel", "looks", "(I)V"⟩, 47) := ⟨⟨by decide +kernel, by decide +kernel⟩, List.mem_of_getElem? (i := 1245) (by decide +kernel), List.mem_of_getElem? (i := 1460) (by decide +kernel), List.mem_of_getElem? (i := 1461) (by decide +kernel)⟩
theorem lw_p54 : lw_okq (⟨"DrystoneSimnetModel", "isOpen", "(I)Z"⟩, 47) := ⟨⟨by decide +kernel, by decide +kernel⟩, List.mem_of_getElem? (i := 1245) (by decide +kernel), List.mem_of_getElem? (i := 1464) (by decide +kernel), List.mem_of_getElem? (i := 1465) (by decide +kernel)⟩
theorem lw_p55 : lw_okq (⟨"DrystoneSimnetModel", "otherEnd", "(I)I"⟩, 47) := ⟨⟨by decide +kernel, by decide +kernel⟩, List.mem_of_getElem? (i := 1245) (by decide +kernel), List.mem_of_getElem? (i := 1468) (by decide +kernel), List.mem_of_getElem? (i := 1469) (by decide +kernel)⟩
theorem lw_p56 : lw_okq (⟨"DrystoneSimnetModel", "netBy", "(II)I"⟩, 47) := ⟨⟨by decide +kernel, by decide +kernel⟩, List.mem_of_getElem? (i := 1245) (by decide +kernel), List.mem_of_getElem? (i := 1472) (by decide +kernel), List.mem_of_getElem? (i := 1473) (by decide +kernel)⟩
theorem lw_p57 : lw_okq (⟨"DrystoneSimnetModel", "canLeave", "(II)Z"⟩, 47) := ⟨⟨by decide +kernel, by decide +kernel⟩, List.mem_of_getElem? (i := 1245) (by decide +kernel), List.mem_of_getElem? (i := 1476) (by decide +kernel), List.mem_of_getElem? (i := 1477) (by decide +kernel)⟩
theorem lw_p58 : lw_okq (⟨"DrystoneSimnetModel", "tagBy", "(II)I"⟩, 47) := ⟨⟨by decide +kernel, by decide +kernel⟩, List.mem_of_getElem? (i := 1245) (by decide +kernel), List.mem_of_getElem? (i := 1480) (by decide +kernel), List.mem_of_getElem? (i := 1481) (by decide +kernel)⟩
theorem lw_p59 : lw_okq (⟨"DrystoneSimnetModel", "isKind", "(II)Z"⟩, 47) := ⟨⟨by decide +kernel, by decide +kernel⟩, List.mem_of_getElem? (i := 1245) (by decide +kernel), List.mem_of_getElem? (i := 1495) (by decide +kernel), List.mem_of_getElem? (i := 1496) (by decide +kernel)⟩
theorem lw_p60 : lw_okq (⟨"DrystoneSimnetModel", "isSent", "(III)Z"⟩, 47) := ⟨⟨by decide +kernel, by decide +kernel⟩, List.mem_of_getElem? (i := 1245) (by decide +kernel), List.mem_of_getElem? (i := 1519) (by decide +kernel), List.mem_of_getElem? (i := 1520) (by decide +kernel)⟩
theorem lw_p61 : lw_okq (⟨"DrystoneSimnetModel", "nextOf", "(II)I"⟩, 47) := ⟨⟨by decide +kernel, by decide +kernel⟩, List.mem_of_getElem? (i := 1245) (by decide +kernel), List.mem_of_getElem? (i := 1523) (by decide +kernel), List.mem_of_getElem? (i := 1524) (by decide +kernel)⟩
theorem lw_p62 : lw_okq (⟨"DrystoneSimnetModel", "oneAt", "(II)I"⟩, 47) := ⟨⟨by decide +kernel, by decide +kernel⟩, List.mem_of_getElem? (i := 1245) (by decide +kernel), List.mem_of_getElem? (i := 1530) (by decide +kernel), List.mem_of_getElem? (i := 1531) (by decide +kernel)⟩
theorem lw_p63 : lw_okq (⟨"DrystoneSimnetModel", "ends", "(IIII)V"⟩, 47) := ⟨⟨by decide +kernel, by decide +kernel⟩, List.mem_of_getElem? (i := 1245) (by decide +kernel), List.mem_of_getElem? (i := 1534) (by decide +kernel), List.mem_of_getElem? (i := 1535) (by decide +kernel)⟩
def lw_privs_4 : List (MethodName × Nat) := [(⟨"DrystoneSimnetModel", "grows", "()V"⟩, 47), (⟨"DrystoneSimnetModel", "isBetweenBridges", "(I)Z"⟩, 47), (⟨"DrystoneSimnetModel", "kindAt", "(I)I"⟩, 47), (⟨"DrystoneSimnetModel", "upwards", "(I)I"⟩, 47), (⟨"DrystoneSimnetModel", "surveys", "()V"⟩, 47), (⟨"DrystoneSimnetModel", "looks", "(I)V"⟩, 47), (⟨"DrystoneSimnetModel", "isOpen", "(I)Z"⟩, 47), (⟨"DrystoneSimnetModel", "otherEnd", "(I)I"⟩, 47), (⟨"DrystoneSimnetModel", "netBy", "(II)I"⟩, 47), (⟨"DrystoneSimnetModel", "canLeave", "(II)Z"⟩, 47), (⟨"DrystoneSimnetModel", "tagBy", "(II)I"⟩, 47), (⟨"DrystoneSimnetModel", "isKind", "(II)Z"⟩, 47), (⟨"DrystoneSimnetModel", "isSent", "(III)Z"⟩, 47), (⟨"DrystoneSimnetModel", "nextOf", "(II)I"⟩, 47), (⟨"DrystoneSimnetModel", "oneAt", "(II)I"⟩, 47), (⟨"DrystoneSimnetModel", "ends", "(IIII)V"⟩, 47)]
theorem lw_r4 : ∀ q ∈ lw_privs_4, lw_okq q := List.forall_mem_cons.mpr ⟨lw_p48, List.forall_mem_cons.mpr ⟨lw_p49, List.forall_mem_cons.mpr ⟨lw_p50, List.forall_mem_cons.mpr ⟨lw_p51, List.forall_mem_cons.mpr ⟨lw_p52, List.forall_mem_cons.mpr ⟨lw_p53, List.forall_mem_cons.mpr ⟨lw_p54, List.forall_mem_cons.mpr ⟨lw_p55, List.forall_mem_cons.mpr ⟨lw_p56, List.forall_mem_cons.mpr ⟨lw_p57, List.forall_mem_cons.mpr ⟨lw_p58, List.forall_mem_cons.mpr ⟨lw_p59, List.forall_mem_cons.mpr ⟨lw_p60, List.forall_mem_cons.mpr ⟨lw_p61, List.forall_mem_cons.mpr ⟨lw_p62, List.forall_mem_cons.mpr ⟨lw_p63, fun _ h => absurd h List.not_mem_nil⟩⟩⟩⟩⟩⟩⟩⟩⟩⟩⟩⟩⟩⟩⟩⟩
theorem lw_p64 : lw_okq (⟨"DrystoneSimnetModel", "puts", "(IIIIIIII)V"⟩, 47) := ⟨⟨by decide +kernel, by decide +kernel⟩, List.mem_of_getElem? (i := 1245) (by decide +kernel), List.mem_of_getElem? (i := 1538) (by decide +kernel), List.mem_of_getElem? (i := 1539) (by decide +kernel)⟩
theorem lw_p65 : lw_okq (⟨"DrystoneSimnetModel", "settlesLost", "()V"⟩, 47) := ⟨⟨by decide +kernel, by decide +kernel⟩, List.mem_of_getElem? (i := 1245) (by decide +kernel), List.mem_of_getElem? (i := 1542) (by decide +kernel), List.mem_of_getElem? (i := 1543) (by decide +kernel)⟩
theorem lw_p66 : lw_okq (⟨"DrystoneSimnetModel", "goesOn", "()V"⟩, 47) := ⟨⟨by decide +kernel, by decide +kernel⟩, List.mem_of_getElem? (i := 1245) (by decide +kernel), List.mem_of_getElem? (i := 1550) (by decide +kernel), List.mem_of_getElem? (i := 1551) (by decide +kernel)⟩
theorem lw_p67 : lw_okq (⟨"DrystoneSimnetModel", "learns", "(I)Z"⟩, 47) := ⟨⟨by decide +kernel, by decide +kernel⟩, List.mem_of_getElem? (i := 1245) (by decide +kernel), List.mem_of_getElem? (i := 1554) (by decide +kernel), List.mem_of_getElem? (i := 1555) (by decide +kernel)⟩
theorem lw_p68 : lw_okq (⟨"DrystoneSimnetModel", "next", "(III)I"⟩, 47) := ⟨⟨by decide +kernel, by decide +kernel⟩, List.mem_of_getElem? (i := 1245) (by decide +kernel), List.mem_of_getElem? (i := 1561) (by decide +kernel), List.mem_of_getElem? (i := 1562) (by decide +kernel)⟩
theorem lw_p69 : lw_okq (⟨"DrystoneSimnetModel", "isOwnPrefix", "(II)Z"⟩, 47) := ⟨⟨by decide +kernel, by decide +kernel⟩, List.mem_of_getElem? (i := 1245) (by decide +kernel), List.mem_of_getElem? (i := 1565) (by decide +kernel), List.mem_of_getElem? (i := 1566) (by decide +kernel)⟩
theorem lw_p70 : lw_okq (⟨"DrystoneSimnetModel", "distance", "(III)I"⟩, 47) := ⟨⟨by decide +kernel, by decide +kernel⟩, List.mem_of_getElem? (i := 1245) (by decide +kernel), List.mem_of_getElem? (i := 1572) (by decide +kernel), List.mem_of_getElem? (i := 1573) (by decide +kernel)⟩
theorem lw_p71 : lw_okq (⟨"DrystoneSimnetModel", "arrives", "(I)V"⟩, 47) := ⟨⟨by decide +kernel, by decide +kernel⟩, List.mem_of_getElem? (i := 1245) (by decide +kernel), List.mem_of_getElem? (i := 1576) (by decide +kernel), List.mem_of_getElem? (i := 1577) (by decide +kernel)⟩
theorem lw_p72 : lw_okq (⟨"DrystoneSimnetModel", "atBridge", "(I)V"⟩, 47) := ⟨⟨by decide +kernel, by decide +kernel⟩, List.mem_of_getElem? (i := 1245) (by decide +kernel), List.mem_of_getElem? (i := 1580) (by decide +kernel), List.mem_of_getElem? (i := 1581) (by decide +kernel)⟩
theorem lw_p73 : lw_okq (⟨"DrystoneSimnetModel", "seenBy", "(II)I"⟩, 47) := ⟨⟨by decide +kernel, by decide +kernel⟩, List.mem_of_getElem? (i := 1245) (by decide +kernel), List.mem_of_getElem? (i := 1584) (by decide +kernel), List.mem_of_getElem? (i := 1585) (by decide +kernel)⟩
theorem lw_p74 : lw_okq (⟨"DrystoneSimnetModel", "atRoute\x72", "(I)V"⟩, 47) := ⟨⟨by decide +kernel, by decide +kernel⟩, List.mem_of_getElem? (i := 1245) (by decide +kernel), List.mem_of_getElem? (i := 1588) (by decide +kernel), List.mem_of_getElem? (i := 1589) (by decide +kernel)⟩
theorem lw_p75 : lw_okq (⟨"DrystoneSimnetModel", "translated", "(II)I"⟩, 47) := ⟨⟨by decide +kernel, by decide +kernel⟩, List.mem_of_getElem? (i := 1245) (by decide +kernel), List.mem_of_getElem? (i := 1592) (by decide +kernel), List.mem_of_getElem? (i := 1593) (by decide +kernel)⟩
theorem lw_p76 : lw_okq (⟨"DrystoneSimnetModel", "isUsed", "(I)Z"⟩, 47) := ⟨⟨by decide +kernel, by decide +kernel⟩, List.mem_of_getElem? (i := 1245) (by decide +kernel), List.mem_of_getElem? (i := 1596) (by decide +kernel), List.mem_of_getElem? (i := 1597) (by decide +kernel)⟩
theorem lw_p77 : lw_okq (⟨"DrystoneSimnetModel", "isOwn", "(II)Z"⟩, 47) := ⟨⟨by decide +kernel, by decide +kernel⟩, List.mem_of_getElem? (i := 1245) (by decide +kernel), List.mem_of_getElem? (i := 1600) (by decide +kernel), List.mem_of_getElem? (i := 1601) (by decide +kernel)⟩
theorem lw_p78 : lw_okq (⟨"DrystoneSimnetModel", "isLet", "(IIII)Z"⟩, 47) := ⟨⟨by decide +kernel, by decide +kernel⟩, List.mem_of_getElem? (i := 1245) (by decide +kernel), List.mem_of_getElem? (i := 1604) (by decide +kernel), List.mem_of_getElem? (i := 1605) (by decide +kernel)⟩
theorem lw_p79 : lw_okq (⟨"DrystoneSimnetModel", "noteOf", "(IIII)I"⟩, 47) := ⟨⟨by decide +kernel, by decide +kernel⟩, List.mem_of_getElem? (i := 1245) (by decide +kernel), List.mem_of_getElem? (i := 1608) (by decide +kernel), List.mem_of_getElem? (i := 1609) (by decide +kernel)⟩
def lw_privs_5 : List (MethodName × Nat) := [(⟨"DrystoneSimnetModel", "puts", "(IIIIIIII)V"⟩, 47), (⟨"DrystoneSimnetModel", "settlesLost", "()V"⟩, 47), (⟨"DrystoneSimnetModel", "goesOn", "()V"⟩, 47), (⟨"DrystoneSimnetModel", "learns", "(I)Z"⟩, 47), (⟨"DrystoneSimnetModel", "next", "(III)I"⟩, 47), (⟨"DrystoneSimnetModel", "isOwnPrefix", "(II)Z"⟩, 47), (⟨"DrystoneSimnetModel", "distance", "(III)I"⟩, 47), (⟨"DrystoneSimnetModel", "arrives", "(I)V"⟩, 47), (⟨"DrystoneSimnetModel", "atBridge", "(I)V"⟩, 47), (⟨"DrystoneSimnetModel", "seenBy", "(II)I"⟩, 47), (⟨"DrystoneSimnetModel", "atRoute\x72", "(I)V"⟩, 47), (⟨"DrystoneSimnetModel", "translated", "(II)I"⟩, 47), (⟨"DrystoneSimnetModel", "isUsed", "(I)Z"⟩, 47), (⟨"DrystoneSimnetModel", "isOwn", "(II)Z"⟩, 47), (⟨"DrystoneSimnetModel", "isLet", "(IIII)Z"⟩, 47), (⟨"DrystoneSimnetModel", "noteOf", "(IIII)I"⟩, 47)]
theorem lw_r5 : ∀ q ∈ lw_privs_5, lw_okq q := List.forall_mem_cons.mpr ⟨lw_p64, List.forall_mem_cons.mpr ⟨lw_p65, List.forall_mem_cons.mpr ⟨lw_p66, List.forall_mem_cons.mpr ⟨lw_p67, List.forall_mem_cons.mpr ⟨lw_p68, List.forall_mem_cons.mpr ⟨lw_p69, List.forall_mem_cons.mpr ⟨lw_p70, List.forall_mem_cons.mpr ⟨lw_p71, List.forall_mem_cons.mpr ⟨lw_p72, List.forall_mem_cons.mpr ⟨lw_p73, List.forall_mem_cons.mpr ⟨lw_p74, List.forall_mem_cons.mpr ⟨lw_p75, List.forall_mem_cons.mpr ⟨lw_p76, List.forall_mem_cons.mpr ⟨lw_p77, List.forall_mem_cons.mpr ⟨lw_p78, List.forall_mem_cons.mpr ⟨lw_p79, fun _ h => absurd h List.not_mem_nil⟩⟩⟩⟩⟩⟩⟩⟩⟩⟩⟩⟩⟩⟩⟩⟩
theorem lw_p80 : lw_okq (⟨"DrystoneSimnetModel", "rulesPass", "(IIII)Z"⟩, 47) := ⟨⟨by decide +kernel, by decide +kernel⟩, List.mem_of_getElem? (i := 1245) (by decide +kernel), List.mem_of_getElem? (i := 1612) (by decide +kernel), List.mem_of_getElem? (i := 1613) (by decide +kernel)⟩
theorem lw_p81 : lw_okq (⟨"DrystoneSimnetModel", "finds", "(III)I"⟩, 47) := ⟨⟨by decide +kernel, by decide +kernel⟩, List.mem_of_getElem? (i := 1245) (by decide +kernel), List.mem_of_getElem? (i := 1616) (by decide +kernel), List.mem_of_getElem? (i := 1617) (by decide +kernel)⟩
theorem lw_p82 : lw_okq (⟨"DrystoneSimnetModel", "connected", "(III)I"⟩, 47) := ⟨⟨by decide +kernel, by decide +kernel⟩, List.mem_of_getElem? (i := 1245) (by decide +kernel), List.mem_of_getElem? (i := 1620) (by decide +kernel), List.mem_of_getElem? (i := 1621) (by decide +kernel)⟩
theorem lw_p83 : lw_okq (⟨"DrystoneSimnetModel", "findsTold", "(II)I"⟩, 47) := ⟨⟨by decide +kernel, by decide +kernel⟩, List.mem_of_getElem? (i := 1245) (by decide +kernel), List.mem_of_getElem? (i := 1624) (by decide +kernel), List.mem_of_getElem? (i := 1625) (by decide +kernel)⟩
theorem lw_p84 : lw_okq (⟨"DrystoneSimnetModel", "pooled", "(II)I"⟩, 47) := ⟨⟨by decide +kernel, by decide +kernel⟩, List.mem_of_getElem? (i := 1245) (by decide +kernel), List.mem_of_getElem? (i := 1628) (by decide +kernel), List.mem_of_getElem? (i := 1629) (by decide +kernel)⟩
theorem lw_p85 : lw_okq (⟨"DrystoneSimnetModel", "isPacket", "(I)Z"⟩, 47) := ⟨⟨by decide +kernel, by decide +kernel⟩, List.mem_of_getElem? (i := 1245) (by decide +kernel), List.mem_of_getElem? (i := 1636) (by decide +kernel), List.mem_of_getElem? (i := 1637) (by decide +kernel)⟩
theorem lw_p86 : lw_okq (⟨"DrystoneSimnetModel", "reaches", "(II)I"⟩, 47) := ⟨⟨by decide +kernel, by decide +kernel⟩, List.mem_of_getElem? (i := 1245) (by decide +kernel), List.mem_of_getElem? (i := 1664) (by decide +kernel), List.mem_of_getElem? (i := 1665) (by decide +kernel)⟩
theorem lw_p87 : lw_okq (⟨"DrystoneSimnetModel", "settles", "()V"⟩, 47) := ⟨⟨by decide +kernel, by decide +kernel⟩, List.mem_of_getElem? (i := 1245) (by decide +kernel), List.mem_of_getElem? (i := 1668) (by decide +kernel), List.mem_of_getElem? (i := 1669) (by decide +kernel)⟩
theorem lw_p88 : lw_okq (⟨"DrystoneSimnetModel", "follows", "(III)I"⟩, 47) := ⟨⟨by decide +kernel, by decide +kernel⟩, List.mem_of_getElem? (i := 1245) (by decide +kernel), List.mem_of_getElem? (i := 1672) (by decide +kernel), List.mem_of_getElem? (i := 1673) (by decide +kernel)⟩
def lw_privs_6 : List (MethodName × Nat) := [(⟨"DrystoneSimnetModel", "rulesPass", "(IIII)Z"⟩, 47), (⟨"DrystoneSimnetModel", "finds", "(III)I"⟩, 47), (⟨"DrystoneSimnetModel", "connected", "(III)I"⟩, 47), (⟨"DrystoneSimnetModel", "findsTold", "(II)I"⟩, 47), (⟨"DrystoneSimnetModel", "pooled", "(II)I"⟩, 47), (⟨"DrystoneSimnetModel", "isPacket", "(I)Z"⟩, 47), (⟨"DrystoneSimnetModel", "reaches", "(II)I"⟩, 47), (⟨"DrystoneSimnetModel", "settles", "()V"⟩, 47), (⟨"DrystoneSimnetModel", "follows", "(III)I"⟩, 47)]
theorem lw_r6 : ∀ q ∈ lw_privs_6, lw_okq q := List.forall_mem_cons.mpr ⟨lw_p80, List.forall_mem_cons.mpr ⟨lw_p81, List.forall_mem_cons.mpr ⟨lw_p82, List.forall_mem_cons.mpr ⟨lw_p83, List.forall_mem_cons.mpr ⟨lw_p84, List.forall_mem_cons.mpr ⟨lw_p85, List.forall_mem_cons.mpr ⟨lw_p86, List.forall_mem_cons.mpr ⟨lw_p87, List.forall_mem_cons.mpr ⟨lw_p88, fun _ h => absurd h List.not_mem_nil⟩⟩⟩⟩⟩⟩⟩⟩⟩
def lw_privs : List (MethodName × Nat) := lw_privs_1 ++ (lw_privs_2 ++ (lw_privs_3 ++ (lw_privs_4 ++ (lw_privs_5 ++ (lw_privs_6)))))
def lw_tbl : List Cond := k2_sels lw_privs ++ tables_1
theorem lw_privs_ok : ∀ q ∈ lw_privs, lw_okq q := by
  show ∀ q ∈ lw_privs_1 ++ (lw_privs_2 ++ (lw_privs_3 ++ (lw_privs_4 ++ (lw_privs_5 ++ (lw_privs_6))))), lw_okq q
  exact List.forall_mem_append.mpr ⟨lw_r1, List.forall_mem_append.mpr ⟨lw_r2, List.forall_mem_append.mpr ⟨lw_r3, List.forall_mem_append.mpr ⟨lw_r4, List.forall_mem_append.mpr ⟨lw_r5, lw_r6⟩⟩⟩⟩⟩
end
section
/-! ===== BEGIN words of one list among another's, by their places ===== -/
theorem goodIn_r {big : List Cond} (ws : List Cond) (ps : List Nat) (hp : ws = ps.filterMap (fun i => big[i]?)) (h : ws.all goodWord = true) : GoodIn big ws := by
  intro w hw
  have h1 := List.all_eq_true.mp h w hw
  rw [hp] at hw
  obtain ⟨i, -, hi⟩ := List.mem_filterMap.mp hw
  have hm : w ∈ big := by first | exact List.mem_of_getElem? hi | exact List.getElem?_mem hi
  exact ⟨hm, good_of_word h1⟩
theorem goodIn_app {big a b : List Cond} (ha : GoodIn big a) (hb : GoodIn big b) : GoodIn big (a ++ b) := fun w h => (List.mem_append.mp h).elim (ha w) (hb w)
theorem goodIn_ca {big a b : List Cond} {c : Cond} (ha : GoodIn big (c :: a)) (hb : GoodIn big b) : GoodIn big (c :: (a ++ b)) := fun w h => (List.mem_cons.mp h).elim (fun e => ha w (List.mem_cons.mpr (Or.inl e))) (fun h => (List.mem_append.mp h).elim (fun h => ha w (List.mem_cons.mpr (Or.inr h))) (hb w))
theorem goodIn_sub {big ws : List Cond} (hm : ∀ w ∈ ws, w ∈ big) (h : ws.all goodWord = true) : GoodIn big ws := fun w hw => ⟨hm w hw, good_of_word (List.all_eq_true.mp h w hw)⟩
/-! ===== END ===== -/


/-- the word of an array over arrays, as a fact of the state (the printed rows of new T[n][m] name it) -/
def va_AOA (ty : FieldType) (U : State) : Prop := (Cond.arrayOver (.array ty)).before #[] U = true
theorem va_AOA.of {ty : FieldType} {A : Array Value} {U : State} (h : (Cond.arrayOver (.array ty)).before A U = true) : va_AOA ty U := h
theorem va_AOA.use {ty : FieldType} {A : Array Value} {U : State} (h : va_AOA ty U) : (Cond.arrayOver (.array ty)).before A U = true := h
/-! ===== BEGIN new T[n][m]: the outer array a place, the inner ones among the pooled ===== -/
/-- f, but v at every address of l -/
def vr_up {α : Type} (f : Nat → α) (l : List Nat) (v : α) : Nat → α := fun a => if a ∈ l then v else f a
theorem vr_up_in {α : Type} {f : Nat → α} {l : List Nat} {v : α} {a : Nat} (h : a ∈ l) : vr_up f l v a = v := if_pos h
theorem vr_up_ne {α : Type} {f : Nat → α} {l : List Nat} {v : α} {a : Nat} (h : a ∉ l) : vr_up f l v a = f a := if_neg h
theorem vr_rows {L l : List Nat} {f : Nat → va_E} {e : va_E} (h : ∀ a, a ∈ l → a ∉ L) : va_pl L f ++ l.map (fun a => (a, e)) = va_pl (L ++ l) (vr_up f l e) := by
  unfold va_pl
  rw [List.map_append]
  congr 1
  · apply List.map_congr_left
    intro a ha
    rw [vr_up_ne (fun q => h a q ha)]
  · apply List.map_congr_left
    intro a ha
    rw [vr_up_in ha]
theorem vr_lay {X rows : va_W} {x : Nat × va_E} {pl : va_W} {D : va_G} {cl : List vw_C} {H : Heap} (hP : va_P D cl (((X ++ pl) ++ [x]) ++ rows) H) : va_P D cl ((X ++ [x]) ++ (pl ++ rows)) H := by
  rw [List.append_assoc (X ++ pl)] at hP
  have h := va_P.swap hP
  rw [← List.append_assoc X] at h
  have h2 := va_P.swap h
  rw [List.append_assoc (X ++ [x])] at h2
  exact h2
theorem vr_layD {X rows : va_W} {x : Nat × va_E} {pl : va_W} {A : Nat → Prop} (hD : va_D A (((X ++ pl) ++ [x]) ++ rows)) : va_D A ((X ++ [x]) ++ (pl ++ rows)) := by
  rw [List.append_assoc (X ++ pl)] at hD
  have h := va_D.swap hD
  rw [← List.append_assoc X] at h
  have h2 := va_D.swap h
  rw [List.append_assoc (X ++ [x])] at h2
  exact h2
theorem vr_outer (c : ClassId) (N h0 : Nat) : ∀ i : Nat, Jvm.Free.Multi.outerC c N h0 i = arrV c N (fun j => va_rf (if j < i then some (h0 + 1 + j) else none))
  | 0 => by
    show ({ cls := c, slots := Array.replicate N .null, vm := .none } : Cell) = _
    rw [arrV_new]
    refine congrArg (arrV c N) (funext fun j => ?_)
    simp [va_rf]
  | i + 1 => by
    show (Jvm.Free.Multi.outerC c N h0 i).setSlot i (.ref (h0 + 1 + i)) = _
    rw [vr_outer c N h0 i, arrV_store]
    refine congrArg (arrV c N) (funext fun j => ?_)
    by_cases e : j = i
    · subst e
      simp [updV, va_rf]
    · by_cases h : j < i
      · simp [updV, e, h, Nat.lt_succ_of_lt h]
      · simp [updV, e, h, show ¬ j < i + 1 by omega]
section VGM
variable {p : Program} {l : Launch} {e : Env} {R : Room} {s : State} {m : MethodId} {args : Array Value} {below : List Frame} {meth : Method} {c : Code} {H : Heap} {locs : List Loc} {cells slots : Nat} {Q : State → Prop}
variable {cc : ByteArray} {pc : Nat} {ls : Array Slot} {rest : List Value} {D : va_G} {cl : List vw_C} {A : Nat → Prop} {a : Nat} {tys : List (ClassId × FieldType)} {ws : va_W} {H0 : Heap}
theorem va_mna {X : va_W} {L : List Nat} {f : Nat → va_E} {cc : ByteArray} (hexec : p.tables.exec = Jvm.exec) (hb : c.code = cc) {own : String} {index : Nat} {ty : FieldType} {cy : ClassId} (hown : s.vm.findClass own = some m.cls) (hclink : (Cond.classLink own index ("[" ++ (FieldType.array ty).toString)).before args s = true) (hover : va_AOA ty s) (harr : (Cond.arrayClass ty).before args s = true) (hcy : s.vm.findClass (FieldType.array ty).toString = some cy)
    (hK : va_K D cl tys s) (hP : va_P D cl (X ++ va_pl L f) H) (hD : va_D A (X ++ va_pl L f)) (hS : va_S A H0 H locs) (hA : ∀ q, H0.size ≤ q → A q) {n k : Int32} {N' K' : Nat} {z : vp_A} (hn : ¬ n < 0) (hk : ¬ k < 0) (hN : n.toNatClampNeg = N') (hM : k.toNatClampNeg = K')
    (hb1 : N' * 4 ≤ 536870912) (hb2 : K' * componentBytes ty ≤ 536870912) (hb3 : K' ≤ 536870912) (hdf : fits ty (defaultValue ty) = true) (hdd : (defaultValue ty).isDefault = true) (hcells : cells + (1 + N') ≤ R.cells) (hslots : slots + (N' + N' * K') ≤ R.slots) (hz : ∀ c : ClassId, Jvm.Free.Multi.innerC c K' (defaultValue ty) = vp_cell c z) (hdg : decode cc pc = .ok (.multianewarray index 2, 4))
    (kk : ∀ (q : Nat) (r : Nat → Nat) (cA : ClassId) (H1 : Heap), (∀ i j : Nat, i < N' → j < N' → r i = r j → i = j) → (∀ i : Nat, i < N' → r i ∉ L) → va_K D cl (tys ++ [(cA, .array ty)]) s →
      va_P D cl ((X ++ [(q, .inl (cA, N', .inr (.inr (.inr (.inr (fun i => if i < N' then some (r i) else none))))))]) ++ va_pl (L ++ (List.range N').map r) (vr_up f ((List.range N').map r) (.inl (cy, z)))) H1 → va_D A ((X ++ [(q, .inl (cA, N', .inr (.inr (.inr (.inr (fun i => if i < N' then some (r i) else none))))))]) ++ va_pl (L ++ (List.range N').map r) (vr_up f ((List.range N').map r) (.inl (cy, z)))) → va_S A H0 H1 locs →
      W p l e R s m args below meth c H1 locs (cells + 1 + N') (slots + N' + N' * K') Q (F0 m (pc + 4) ls (.ref q :: rest))) : W p l e R s m args below meth c H locs cells slots Q (F0 m pc ls (.int k :: .int n :: rest)) := by
  subst hN
  subst hM
  intro T hT Xs
  obtain ⟨vm₁, cA, comp, -, fA, fC, hO, -, X', step⟩ := Xs.multianewarray2F hexec hown hclink (va_AOA.use hover) harr (g := F0 m pc ls (.int k :: .int n :: rest)) rfl (by rw [hb]; exact hdg) rfl hn hk hb1 hb2 hb3 hdf hdd hcells hslots
  have ec : some cy = some comp := hcy.symm.trans fC
  cases ec
  generalize hF : Jvm.Free.Multi.fill (T.setVm vm₁) cA cy n.toNatClampNeg k.toNatClampNeg (defaultValue ty) n.toNatClampNeg = F at X' step
  have hTh : (T.setVm vm₁).heap = H := hT
  obtain ⟨f1, f2, -, -⟩ := Jvm.Free.Multi.fill_facts (T.setVm vm₁) cA cy n.toNatClampNeg k.toNatClampNeg (defaultValue ty) n.toNatClampNeg
  rw [hF, hTh] at f1 f2
  have hold : ∀ x : Nat, x < H.size → F.heap[x]? = H[x]? := fun x hx => by
    have := Jvm.Free.Multi.fill_old (T.setVm vm₁) cA cy n.toNatClampNeg k.toNatClampNeg (defaultValue ty) (a := x) (by rw [hTh]; exact hx) n.toNatClampNeg
    rw [hF, hTh] at this
    exact this
  have hrow : ∀ j : Nat, j < n.toNatClampNeg → F.heap[H.size + 1 + j]? = some (vp_cell cy z) := fun j hj => by
    have := Jvm.Free.Multi.fill_inner (T.setVm vm₁) cA cy n.toNatClampNeg k.toNatClampNeg (defaultValue ty) n.toNatClampNeg j hj
    rw [hF, hTh, hz] at this
    exact this
  have hout : Jvm.Free.Multi.outerC cA n.toNatClampNeg H.size n.toNatClampNeg = vp_cell cA (n.toNatClampNeg, .inr (.inr (.inr (.inr (fun i => if i < n.toNatClampNeg then some (H.size + 1 + i) else none))))) := by
    rw [vp_cell_q]
    exact vr_outer cA n.toNatClampNeg H.size n.toNatClampNeg
  rw [hout] at f2
  have hlt : ∀ a, a ∈ L → a < H.size := fun a ha => by
    obtain ⟨k9, hk9⟩ := va_pl_get (X := X) (f := f) ha
    exact (hP k9 _ hk9).lt
  have hnl : ∀ i : Nat, i < n.toNatClampNeg → H.size + 1 + i ∉ L := fun i _ h => by
    have := hlt _ h
    omega
  have hnm : ∀ a, a ∈ (List.range n.toNatClampNeg).map (fun i => H.size + 1 + i) → a ∉ L := fun a ha h => by
    obtain ⟨i, -, rfl⟩ := List.mem_map.mp ha
    have := hlt _ h
    omega
  have hP0 : va_P D cl (X ++ va_pl L f) F.heap := hP.kept (fun k9 x hx => hold x.1 ((hP k9 x hx).lt))
  have hP1 : va_P D cl ((X ++ va_pl L f) ++ [(H.size, .inl (cA, n.toNatClampNeg, .inr (.inr (.inr (.inr (fun i => if i < n.toNatClampNeg then some (H.size + 1 + i) else none))))))]) F.heap := hP0.app (fun k9 x hx => by
    have h0 : k9 < 1 := (List.getElem?_eq_some_iff.mp hx).1
    rw [show k9 = 0 by omega] at hx
    cases hx
    exact f2)
  have hP2 : va_P D cl (((X ++ va_pl L f) ++ [(H.size, .inl (cA, n.toNatClampNeg, .inr (.inr (.inr (.inr (fun i => if i < n.toNatClampNeg then some (H.size + 1 + i) else none))))))]) ++ ((List.range n.toNatClampNeg).map (fun i => H.size + 1 + i)).map (fun a => (a, .inl (cy, z)))) F.heap := hP1.app (fun k9 x hx => by
    obtain ⟨a, ha, rfl⟩ := List.mem_map.mp (List.mem_of_getElem? hx)
    obtain ⟨i, hi, rfl⟩ := List.mem_map.mp ha
    exact hrow i (List.mem_range.mp hi))
  have hD2 : va_D A (((X ++ va_pl L f) ++ [(H.size, .inl (cA, n.toNatClampNeg, .inr (.inr (.inr (.inr (fun i => if i < n.toNatClampNeg then some (H.size + 1 + i) else none))))))]) ++ ((List.range n.toNatClampNeg).map (fun i => H.size + 1 + i)).map (fun a => (a, .inl (cy, z)))) := by
    have hD1 := hD.push (e := .inl (cA, n.toNatClampNeg, .inr (.inr (.inr (.inr (fun i => if i < n.toNatClampNeg then some (H.size + 1 + i) else none)))))) hP rfl (hA _ hS.1)
    generalize hW1 : (X ++ va_pl L f) ++ [(H.size, .inl (cA, n.toNatClampNeg, .inr (.inr (.inr (.inr (fun i => if i < n.toNatClampNeg then some (H.size + 1 + i) else none))))))] = W1 at hD1 hP1 ⊢
    have hle : ∀ (k9 : Nat) (x : Nat × va_E), W1[k9]? = some x → x.1 ≤ H.size := fun k9 x hx => by
      rw [← hW1] at hx
      by_cases hl : k9 < (X ++ va_pl L f).length
      · rw [List.getElem?_append_left hl] at hx
        exact Nat.le_of_lt ((hP k9 x hx).lt)
      · rw [List.getElem?_append_right (by omega)] at hx
        have h0 : k9 - (X ++ va_pl L f).length < 1 := (List.getElem?_eq_some_iff.mp hx).1
        rw [show k9 - (X ++ va_pl L f).length = 0 by omega] at hx
        cases hx
        exact Nat.le_refl _
    have hr : ∀ (k9 : Nat) (x : Nat × va_E), (((List.range n.toNatClampNeg).map (fun i => H.size + 1 + i)).map (fun a => ((a, .inl (cy, z)) : Nat × va_E)))[k9]? = some x → x.1 = H.size + 1 + k9 := fun k9 x hx => by
      rw [List.getElem?_map, List.getElem?_map] at hx
      by_cases h9 : k9 < n.toNatClampNeg
      · rw [List.getElem?_range h9] at hx
        cases hx
        rfl
      · have hn0 : (List.range n.toNatClampNeg)[k9]? = none := List.getElem?_eq_none (by rw [List.length_range]; omega)
        rw [hn0] at hx
        cases hx
    refine ⟨fun i j x y hi hj hxy => ?_, fun k9 x hx => ?_⟩
    · by_cases h1 : i < W1.length <;> by_cases h2 : j < W1.length
      · rw [List.getElem?_append_left h1] at hi
        rw [List.getElem?_append_left h2] at hj
        exact hD1.1 i j x y hi hj hxy
      · rw [List.getElem?_append_left h1] at hi
        rw [List.getElem?_append_right (by omega)] at hj
        have := hle _ _ hi
        have := hr _ _ hj
        omega
      · rw [List.getElem?_append_right (by omega)] at hi
        rw [List.getElem?_append_left h2] at hj
        have := hle _ _ hj
        have := hr _ _ hi
        omega
      · rw [List.getElem?_append_right (by omega)] at hi hj
        have := hr _ _ hi
        have := hr _ _ hj
        omega
    · by_cases h1 : k9 < W1.length
      · rw [List.getElem?_append_left h1] at hx
        exact hD1.2 k9 x hx
      · rw [List.getElem?_append_right (by omega)] at hx
        have := hr _ _ hx
        exact hA _ (by have := hS.1; omega)
  have hAr : ArrOfT s cA (.array ty) := fun N9 z9 => by
    obtain ⟨-, k9, hk9, cm9, hkk9⟩ := (hO 0 0 0).1
    exact ⟨(fun q hq => by cases hq), k9, hk9, cm9, hkk9⟩
  have hK2 : va_K D cl (tys ++ [(cA, .array ty)]) s := ⟨hK.1, fun k9 x hx => by
    by_cases hl : k9 < tys.length
    · rw [List.getElem?_append_left hl] at hx
      exact hK.2 k9 x hx
    · rw [List.getElem?_append_right (by omega)] at hx
      have h0 : k9 - tys.length < 1 := (List.getElem?_eq_some_iff.mp hx).1
      rw [show k9 - tys.length = 0 by omega] at hx
      cases hx
      exact ⟨hAr, fA⟩⟩
  obtain ⟨t, a1, b1⟩ := kk H.size (fun i => H.size + 1 + i) cA F.heap (fun i j _ _ h => by have h9 : H.size + 1 + i = H.size + 1 + j := h; omega) hnl hK2 (by rw [← vr_rows hnm]; exact vr_lay hP2) (by rw [← vr_rows hnm]; exact vr_layD hD2) ⟨by rw [f1]; have := hS.1; omega, fun x h1 h2 => (hold x (Nat.lt_of_lt_of_le h1 hS.1)).trans (hS.2.1 x h1 h2), hS.2.2⟩ F rfl X'
  refine ⟨t, step t ?_, b1⟩
  have e : T.heap.size = H.size := by rw [hT]
  rw [e]
  exact a1
end VGM
/-! ===== END ===== -/

/-! ===== BEGIN exceptions that leave a method, and their catching by the caller (launches without stack traces) ===== -/
section VXA
/-! The laws vx_back, vx_callV, vx_callS, vx_callSW, vx_throw0, vx_throwS follow proofs of the library, with one case more: JvmDerived/Free/Laws.lean (Back.of_free), Shelf42/LK1.lean (callV, callS), Shelf/KitTraced.lean (throwNew0V, throwNewS). -/
/-- where a method has thrown q: the class by its name, the cell, what was written, the world -/
def vx_T (XC : String → State → State → Prop) (st : State) (q : Addr) (t : State) (mc ms : Nat) (free : Addr → Prop) : Prop :=
  ∃ (E : String) (ce : Cell) (L : List Loc), XC E st t ∧ t.heap[q]? = some ce ∧ ce.vm = .none ∧ st.vm.findClass E = some ce.cls ∧ st.WarmedH t.vm ∧ st.sameButNew ({ t with vm := st.vm } : State) L mc ms ∧ ∀ z ∈ L, free z.base
def vx_Q (Qc : Array Value → State → Outcome → State → Prop) (XC : String → State → State → Prop) (mc ms : Nat) (free : Addr → Prop) : Array Value → State → Outcome → State → Prop := fun a st o t =>
  (Qc a st o t ∧ ∃ L, FrameEnd st o t L mc ms ∧ ∀ q ∈ L, free q.base) ∨ ∃ q, o = .threw q ∧ vx_T XC st q t mc ms free
/-- a callee that returns or throws -/
def vx_Met (l : Launch) (y : MethodName) (ws : List Cond) (rm : Room) (Pc : Array Value → State → Prop) (Qc : Array Value → State → Outcome → State → Prop) (XC : String → State → State → Prop) (mc ms : Nat) (free : Addr → Prop) : Prop :=
  MetFree l y (headSpec ws rm) Pc (fun _ _ _ _ _ => True) (vx_Q Qc XC mc ms free)
def vx_Post (XC : String → State → State → Prop) (mc ms : Nat) (free : Addr → Prop) : Pt → Array Value → Addr → Pt → Prop := fun A a q B =>
  ∃ (g : JFrame) (mk : MethodId) (t : State) (L : List Loc) (E : String) (ce : Cell), B.U.heap = t.heap ∧ B.U.vm = t.vm ∧ XC E (A.U.calling g mk a) t ∧ t.heap[q]? = some ce ∧ ce.vm = .none ∧ A.U.vm.findClass E = some ce.cls ∧ B.locs = A.locs ++ L ∧ (∀ z ∈ L, free z.base) ∧ B.cells = A.cells + mc ∧ B.slots = A.slots + ms
def vx_Back (l : Launch) (R : Room) (p : Program) (e : Env) (below : List Frame) (s : State) (sargs : Array Value) (y : MethodName) (len W9 : Nat)
    (Pre : Pt → Array Value → Prop) (Post : Pt → Array Value → Option Value → Pt → Prop) (PostX : Pt → Array Value → Addr → Pt → Prop) : Prop :=
  ∀ (m : MethodId) (meth : Method) (c : Code) (A : Pt) (g : JFrame) (ig : Instr) (mk : MethodId) (a : Array Value),
    Stand p l e R s m sargs below meth c A.U A.locs A.cells A.slots → g.method = m → g.locals.size = c.maxLocals → decode c.code g.pc = .ok (ig, len) →
    2 * g.monitorRoom + (g.stack.map fun v => v.category).sum ≤ W9 → A.U.methodNamed? y = some mk → Pre A a →
    (∃ (v : Option Value) (B : Pt), Stand p l e R s m sargs below meth c B.U B.locs B.cells B.slots ∧ Post A a v B ∧
      Steps p.tables e below (doInvoke e (A.U.setTop g) [] mk a).1 (B.U.setTop { g with pc := g.pc + len, stack := v.toList ++ g.stack })) ∨
    (∃ (q : Addr) (B : Pt), Stand p l e R s m sargs below meth c B.U B.locs B.cells B.slots ∧ PostX A a q B ∧
      Steps p.tables e below (doInvoke e (A.U.setTop g) [] mk a).1 ((B.U.setTop g).pushFrame (.throwing q)))
section Payer
variable {l : Launch} {R : Room} {p : Program} {e : Env} {below : List Frame} {s : State} {sargs : Array Value} {y : MethodName} {len W9 : Nat}
theorem vx_back {ws : List Cond} {rm : Room} {Pc : Array Value → State → Prop} {Qc : Array Value → State → Outcome → State → Prop} {XC : String → State → State → Prop} {mc ms : Nat} {free : Addr → Prop} {bytes : ByteArray} {maxL : Nat} {ret : Option FieldType}
    (hM : vx_Met l y ws rm Pc Qc XC mc ms free) (hblind : FrameBlind Pc) (hrc : rm.cells = mc) (hrs : rm.slots = ms)
    (hframes : rm.frames + 1 ≤ R.frames) (hlocals : W9 + (maxL + 11) + rm.locals ≤ R.locals)
    (hws : ∀ w ∈ ws, ∀ a' U, s.WarmedH U.vm → w.before a' U = true) (hcode : Cond.code y bytes maxL ret ∈ ws) (hinit : ∀ a' U, s.WarmedH U.vm → (Cond.initialized y.cls).before a' U = true) :
    vx_Back l R p e below s sargs y len W9 (PreOf R mc ms Pc) (PostOf Qc mc ms free) (vx_Post XC mc ms free) := by
  intro m meth c A g ig mk a X hg hsize hdg hW hn hp
  have h1 : (headSpec ws rm).pre.before a A.U = true := atoms_intro fun w hw => hws w hw _ _ X.warmed
  have h2 : (Cond.code y bytes maxL ret).before a A.U = true := hws _ hcode _ _ X.warmed
  have h3 : (Cond.initialized y.cls).before a A.U = true := hinit _ _ X.warmed
  have h4 : A.cells + (headSpec ws rm).room.cells ≤ R.cells := by rw [show (headSpec ws rm).room.cells = mc from hrc]; exact hp.1
  have h5 : A.slots + (headSpec ws rm).room.slots ≤ R.slots := by rw [show (headSpec ws rm).room.slots = ms from hrs]; exact hp.2.1
  have hPc : Pc a (A.U.calling g mk a) := hblind _ _ _ _ hp.2.2
  obtain ⟨U, Ls, c0, s0⟩ := A
  dsimp only [Pt.U, Pt.locs, Pt.cells, Pt.slots] at h1 h2 h3 h4 h5 X hn hPc ⊢
  obtain ⟨methY, cY, hmY, hcY, -, hlY, -, -, -, -⟩ := Cond.code_spec hn h2
  obtain ⟨kY, hkY, -⟩ := className_of_methodNamed hn
  have hinitY : kY.init = .initialized := Cond.initialized_spec (findClass_of_methodNamed hn) hkY h3
  have h : At U g.method c below := by rw [hg]; exact X.here
  have hlocals9 : W9 + (maxL + 11) + (headSpec ws rm).room.locals ≤ R.locals := hlocals
  have happ : (headSpec ws rm).appliesLoose y e.platform (U.calling g mk a) = true :=
    Spec.appliesLoose_calling (g := g) h hdg hn hkY hinitY
      (X.room_calling (g := g) (R' := (headSpec ws rm).room) hsize hmY hcY hframes (by rw [hlY]; omega) h4 h5) h1
  obtain ⟨mid, hmid⟩ := h.above
  have hfr : (U.setTop g).frames = (.java g :: mid) ++ below := by rw [State.frames_setTop' g h.top, hmid]; rfl
  obtain ⟨o, s₂, hsteps, -, hend, hq⟩ := Steps.callFree hM p X.admits X.cas X.clock (acts := []) hfr happ hPc trivial
  have hq' : vx_Q Qc XC mc ms free a (U.calling g mk a) o s₂ := hq
  rw [State.frames_setTop' g h.top] at hend
  obtain ⟨g₀, hg0⟩ := Option.isSome_iff_exists.mp h.top
  obtain ⟨r, hr⟩ := State.topJava?_eq_some.mp hg0
  have hr' : (({ U with heap := s₂.heap, slotsUsed := s₂.slotsUsed } : State).setVm s₂.vm).frames = .java g₀ :: r := hr
  rcases hq' with ⟨hqc, L, hfe, hL⟩ | ⟨q, rfl, E, ce, L, hx, hce, hcv, hcl, hW₂, hsm, hL⟩
  · obtain ⟨⟨v, rfl⟩, hW₂, e2, q2, q3, q4, q5, q6⟩ := id hfe
    have e3 : s₂ = ({ (U.calling g mk a).setFrames s₂.frames with heap := s₂.heap, slotsUsed := s₂.slotsUsed } : State).setVm s₂.vm := by
      have : s₂ = ({ s₂ with vm := (U.calling g mk a).vm } : State).setVm s₂.vm := rfl
      rw [e2] at this
      exact this
    obtain ⟨c₂, i₂, len₂, hc₂, hd₂, hf₂⟩ := hend
    have hW' : U.WarmedH s₂.vm := hW₂
    have hcc : c₂ = c := by
      have h1 : s₂.code? g.method = U.code? g.method := by
        rw [State.code?_eq, State.code?_eq, hW'.alike.method?]
      exact Option.some.inj (hc₂.symm.trans (h1.trans h.code))
    subst hcc
    have hlen : len₂ = len := by rw [hdg] at hd₂; cases hd₂; rfl
    subst hlen
    have hs₂ : s₂ = (({ U with heap := s₂.heap, slotsUsed := s₂.slotsUsed } : State).setVm s₂.vm).setTop { g with pc := g.pc + len₂, stack := v.toList ++ g.stack } := by
      refine e3.trans ?_
      rw [hf₂, State.calling_eq h.top, State.setFrames_setFrames, State.setTop_of_frames _ hr', hr]
      rfl
    have hsame : U.sameButNew ({ U with heap := s₂.heap, slotsUsed := s₂.slotsUsed } : State) L mc ms := by
      refine ⟨?_, q2, q3, q4, q5, q6⟩
      obtain ⟨t, ht, -⟩ := State.frames_cons hr
      show ({ U with heap := s₂.heap, slotsUsed := s₂.slotsUsed } : State) = { U.setFrames U.frames with heap := s₂.heap, slotsUsed := s₂.slotsUsed }
      rw [State.setFrames_self ht]
    subst hg
    refine Or.inl ⟨v, ⟨(({ U with heap := s₂.heap, slotsUsed := s₂.slotsUsed } : State).setVm s₂.vm), Ls ++ L, c0 + mc, s0 + ms⟩,
      ⟨X.admits, X.cas, X.clock, X.frames, X.room, X.hears, X.method, X.code, (X.here.setHeapUsed s₂.heap s₂.slotsUsed).setVm hW'.alike, X.tail, State.WarmedH.trans X.warmed hW', X.limits, X.bytes, X.same.trans (hsame.setVm s.vm)⟩,
      ⟨g, mk, s₂, L, rfl, rfl, hqc, rfl, hL, rfl, rfl⟩, ?_⟩
    show Steps p.tables e below _ ((({ U with heap := s₂.heap, slotsUsed := s₂.slotsUsed } : State).setVm s₂.vm).setTop { g with pc := g.pc + len₂, stack := v.toList ++ g.stack })
    rw [← hs₂]
    exact hsteps
  · obtain ⟨e2, q2, q3, q4, q5, q6⟩ := id hsm
    have e3 : s₂ = ({ (U.calling g mk a).setFrames s₂.frames with heap := s₂.heap, slotsUsed := s₂.slotsUsed } : State).setVm s₂.vm := by
      have : s₂ = ({ s₂ with vm := (U.calling g mk a).vm } : State).setVm s₂.vm := rfl
      rw [e2] at this
      exact this
    have hf₂ : s₂.frames = .throwing q :: .java g :: U.frames.tail := hend
    have hW' : U.WarmedH s₂.vm := hW₂
    have hs₂ : s₂ = ((({ U with heap := s₂.heap, slotsUsed := s₂.slotsUsed } : State).setVm s₂.vm).setTop g).pushFrame (.throwing q) := by
      refine e3.trans ?_
      rw [hf₂, State.calling_eq h.top, State.setFrames_setFrames, State.pushFrame, State.frames_setTop _ hr', State.setTop_of_frames _ hr', State.setFrames_setFrames, hr]
      rfl
    have hsame : U.sameButNew ({ U with heap := s₂.heap, slotsUsed := s₂.slotsUsed } : State) L mc ms := by
      refine ⟨?_, q2, q3, q4, q5, q6⟩
      obtain ⟨t, ht, -⟩ := State.frames_cons hr
      show ({ U with heap := s₂.heap, slotsUsed := s₂.slotsUsed } : State) = { U.setFrames U.frames with heap := s₂.heap, slotsUsed := s₂.slotsUsed }
      rw [State.setFrames_self ht]
    subst hg
    refine Or.inr ⟨q, ⟨(({ U with heap := s₂.heap, slotsUsed := s₂.slotsUsed } : State).setVm s₂.vm), Ls ++ L, c0 + mc, s0 + ms⟩,
      ⟨X.admits, X.cas, X.clock, X.frames, X.room, X.hears, X.method, X.code, (X.here.setHeapUsed s₂.heap s₂.slotsUsed).setVm hW'.alike, X.tail, State.WarmedH.trans X.warmed hW', X.limits, X.bytes, X.same.trans (hsame.setVm s.vm)⟩,
      ⟨g, mk, s₂, L, E, ce, rfl, rfl, hx, hce, hcv, hcl, rfl, hL, rfl, rfl⟩, ?_⟩
    show Steps p.tables e below _ (((({ U with heap := s₂.heap, slotsUsed := s₂.slotsUsed } : State).setVm s₂.vm).setTop g).pushFrame (.throwing q))
    rw [← hs₂]
    exact hsteps
end Payer
section Calls
variable {p : Program} {l : Launch} {e : Env} {R : Room} {s : State} {m : MethodId} {args : Array Value} {below : List Frame} {meth : Method} {c : Code} {T : State} {locs : List Loc} {cells slots : Nat}
theorem vx_callV (X : Stand p l e R s m args below meth c T locs cells slots) (hexec : p.tables.exec = Jvm.exec) {own C : String} {index : Nat} {y : MethodName} {bytes : ByteArray} {maxL : Nat} {ret : Option FieldType}
    (hown : s.vm.findClass own = some m.cls) (hlink : (Cond.methodLink own index y).before args s = true) (hinst : (Cond.instanceMethod y).before args s = true) (hsel : (Cond.selects C y y).before args s = true)
    (hcode : (Cond.code y bytes maxL ret).before args s = true) (hy : y.cls ≠ "java/lang/invoke/MethodHandle" ∧ y.cls ≠ "java/lang/invoke/VarHandle")
    {W9 : Nat} {Pre : Pt → Array Value → Prop} {Post : Pt → Array Value → Option Value → Pt → Prop} {PostX : Pt → Array Value → Addr → Pt → Prop} (hK : vx_Back l R p e below s args y 3 W9 Pre Post PostX)
    {b : Addr} {cellB : Cell} (hcell : T.heap[b]? = some cellB) (hobj : cellB.vm.isStatics = false) (hcls : s.vm.findClass C = some cellB.cls)
    {g : JFrame} (hg : g.method = m) (hsize : g.locals.size = c.maxLocals) {argsL rest : List Value} (hlen : ∀ sig, parseMethodDescriptor y.desc = some sig → argsL.length = sig.parameters.length)
    (hstack : g.stack = argsL.reverse ++ .ref b :: rest) (hW : 2 * g.monitorRoom + (rest.map fun v => v.category).sum ≤ W9) (hdg : decode c.code g.pc = .ok (.invokevirtual index, 3))
    (hpre : ∀ vm₁, s.WarmedH vm₁ → Pre ⟨T.setVm vm₁, locs, cells, slots⟩ (Value.ref b :: argsL).toArray) :
    (∃ (v : Option Value) (vm₁ : Vm) (B : Pt), s.WarmedH vm₁ ∧ Stand p l e R s m args below meth c B.U B.locs B.cells B.slots ∧ Post ⟨T.setVm vm₁, locs, cells, slots⟩ (Value.ref b :: argsL).toArray v B ∧
      ∀ target, Steps p.tables e below (B.U.setTop { g with pc := g.pc + 3, stack := v.toList ++ rest }) target → Steps p.tables e below (T.setTop g) target) ∨
    (∃ (q : Addr) (vm₁ : Vm) (B : Pt), s.WarmedH vm₁ ∧ Stand p l e R s m args below meth c B.U B.locs B.cells B.slots ∧ PostX ⟨T.setVm vm₁, locs, cells, slots⟩ (Value.ref b :: argsL).toArray q B ∧
      Steps p.tables e below (T.setTop g) ((B.U.setTop { g with stack := rest }).pushFrame (.throwing q))) := by
  obtain ⟨mk, methM, hnamed, hmethM, hstM, habM⟩ := Cond.instanceMethod_spec hinst
  obtain ⟨methM', cM, hmethM', -, -, -, -, -, -, hsigM⟩ := Cond.code_spec hnamed hcode
  cases hmethM.symm.trans hmethM'
  obtain ⟨c2, r2, m2, q1, q2, q3, q4, kP, hkP, hkPi⟩ := Cond.selects_spec hsel
  cases hcls.symm.trans q1
  cases (State.methodFound?_of_named hnamed hy).symm.trans q2
  cases hnamed.symm.trans q3
  have hselP : selectMethod e.platform s.vm cellB.cls mk = .method mk := by rw [Launch.admits_selectMethod X.admits]; exact q4
  obtain ⟨vm₁, X₁, hstep₁⟩ := X.invokevirtual hexec hown hlink hnamed hmethM hstM hkP hkPi hy (a := b) (cell := cellB) hcell
    (fun z h => by rw [h] at hobj; cases hobj) hselP hmethM habM hkP hkPi (g := g) hg (argsL := argsL) (rest := rest) (hlen _ hsigM) hstack hdg
  rcases hK m meth c ⟨T.setVm vm₁, locs, cells, slots⟩ { g with stack := rest } (.invokevirtual index) mk (Value.ref b :: argsL).toArray X₁ hg hsize hdg hW (X₁.named hnamed) (hpre vm₁ X₁.warmed) with ⟨v, B, X', hpost, hsteps⟩ | ⟨q, B, X', hpost, hsteps⟩
  · exact Or.inl ⟨v, vm₁, B, X₁.warmed, X', hpost, fun target h => hstep₁ _ fun acts => by rw [doInvoke_state]; exact hsteps.trans h⟩
  · exact Or.inr ⟨q, vm₁, B, X₁.warmed, X', hpost, hstep₁ _ fun acts => by rw [doInvoke_state]; exact hsteps⟩
theorem vx_callS (X : Stand p l e R s m args below meth c T locs cells slots) (hexec : p.tables.exec = Jvm.exec) {own : String} {index : Nat} {y : MethodName} {bytes : ByteArray} {maxL : Nat} {ret : Option FieldType}
    (hown : s.vm.findClass own = some m.cls) (hlink : (Cond.methodLink own index y).before args s = true) (hstat : (Cond.static y).before args s = true) (hinit : (Cond.initialized y.cls).before args s = true)
    (hcode : (Cond.code y bytes maxL ret).before args s = true) (hy : y.cls ≠ "java/lang/invoke/MethodHandle" ∧ y.cls ≠ "java/lang/invoke/VarHandle")
    {W9 : Nat} {Pre : Pt → Array Value → Prop} {Post : Pt → Array Value → Option Value → Pt → Prop} {PostX : Pt → Array Value → Addr → Pt → Prop} (hK : vx_Back l R p e below s args y 3 W9 Pre Post PostX)
    {g : JFrame} (hg : g.method = m) (hsize : g.locals.size = c.maxLocals) {argsL rest : List Value} (hlen : ∀ sig, parseMethodDescriptor y.desc = some sig → argsL.length = sig.parameters.length)
    (hstack : g.stack = argsL.reverse ++ rest) (hW : 2 * g.monitorRoom + (rest.map fun v => v.category).sum ≤ W9) (hdg : decode c.code g.pc = .ok (.invokestatic index, 3))
    (hpre : ∀ vm₁, s.WarmedH vm₁ → Pre ⟨T.setVm vm₁, locs, cells, slots⟩ argsL.toArray) :
    (∃ (v : Option Value) (vm₁ : Vm) (B : Pt), s.WarmedH vm₁ ∧ Stand p l e R s m args below meth c B.U B.locs B.cells B.slots ∧ Post ⟨T.setVm vm₁, locs, cells, slots⟩ argsL.toArray v B ∧
      ∀ target, Steps p.tables e below (B.U.setTop { g with pc := g.pc + 3, stack := v.toList ++ rest }) target → Steps p.tables e below (T.setTop g) target) ∨
    (∃ (q : Addr) (vm₁ : Vm) (B : Pt), s.WarmedH vm₁ ∧ Stand p l e R s m args below meth c B.U B.locs B.cells B.slots ∧ PostX ⟨T.setVm vm₁, locs, cells, slots⟩ argsL.toArray q B ∧
      Steps p.tables e below (T.setTop g) ((B.U.setTop { g with stack := rest }).pushFrame (.throwing q))) := by
  obtain ⟨mk, hnamed⟩ := Cond.code_named hcode
  obtain ⟨methM, cM, hmethM, -, -, -, -, -, -, hsigM⟩ := Cond.code_spec hnamed hcode
  have hstatic : methM.isStatic = true := Cond.static_spec hnamed hmethM hstat
  obtain ⟨kP, hkP, -⟩ := className_of_methodNamed hnamed
  have hinitP : kP.init = .initialized := Cond.initialized_spec (findClass_of_methodNamed hnamed) hkP hinit
  obtain ⟨vm₁, X₁, hstep₁⟩ := X.invokestatic hexec hown hlink hnamed hmethM hstatic hkP hinitP hy (g := g) hg (argsL := argsL) (rest := rest) (hlen _ hsigM) hstack hdg
  rcases hK m meth c ⟨T.setVm vm₁, locs, cells, slots⟩ { g with stack := rest } (.invokestatic index) mk argsL.toArray X₁ hg hsize hdg hW (X₁.named hnamed) (hpre vm₁ X₁.warmed) with ⟨v, B, X', hpost, hsteps⟩ | ⟨q, B, X', hpost, hsteps⟩
  · exact Or.inl ⟨v, vm₁, B, X₁.warmed, X', hpost, fun target h => hstep₁ _ fun acts => by rw [doInvoke_state]; exact hsteps.trans h⟩
  · exact Or.inr ⟨q, vm₁, B, X₁.warmed, X', hpost, hstep₁ _ fun acts => by rw [doInvoke_state]; exact hsteps⟩
end Calls
theorem vx_cls {s : State} {T : State} {vm₁ : Vm} {E : String} {k : ClassId} (hW : s.WarmedH vm₁) (h : (T.setVm vm₁).vm.findClass E = some k) : s.vm.findClass E = some k := by
  have h1 : vm₁.findClass E = some k := h
  rw [hW.alike.findClass] at h1
  exact h1
/-- the method's frame g, with q thrown over it -/
def vx_W (p : Program) (l : Launch) (e : Env) (R : Room) (s : State) (m : MethodId) (args : Array Value) (below : List Frame) (meth : Method) (c : Code) (H : Heap) (locs : List Loc) (cells slots : Nat) (Q : State → Prop) (g : JFrame) (q : Addr) : Prop :=
  ∀ T : State, T.heap = H → Stand p l e R s m args below meth c T locs cells slots → ∃ t, Steps p.tables e below ((T.setTop g).pushFrame (.throwing q)) t ∧ Q t
def vx_Run (p : Program) (l : Launch) (e : Env) (R : Room) (s : State) (m : MethodId) (args : Array Value) (below : List Frame) (meth : Method) (c : Code) (H : Heap) (locs : List Loc) (cells slots mc ms : Nat) (g : JFrame) (rest : List Value) (Qa : State → Outcome → State → Prop) (XC : String → State → State → Prop) (free : Addr → Prop) : Prop :=
  ∀ T : State, T.heap = H → Stand p l e R s m args below meth c T locs cells slots →
    (∃ (v : Option Value) (st₀ t T' : State) (L : List Loc), st₀.heap = H ∧ Stand p l e R s m args below meth c T' (locs ++ L) (cells + mc) (slots + ms) ∧ (∀ q ∈ L, free q.base) ∧ T'.heap = t.heap ∧ T'.vm = t.vm ∧ Qa st₀ (.returned v) t ∧
      Goes p e below T g T' { g with pc := g.pc + 3, stack := v.toList ++ rest }) ∨
    (∃ (q : Addr) (st₀ t T' : State) (L : List Loc) (E : String) (ce : Cell), st₀.heap = H ∧ Stand p l e R s m args below meth c T' (locs ++ L) (cells + mc) (slots + ms) ∧ (∀ z ∈ L, free z.base) ∧ T'.heap = t.heap ∧ T'.vm = t.vm ∧ XC E st₀ t ∧ t.heap[q]? = some ce ∧ ce.vm = .none ∧ s.vm.findClass E = some ce.cls ∧
      Steps p.tables e below (T.setTop g) ((T'.setTop { g with stack := rest }).pushFrame (.throwing q)))
def vx_X {S : Type} (px : S → Prop) (B : String → S → State → Prop) (A : Nat → Prop) : String → State → State → Prop := fun E st t => ∃ u : S, px u ∧ B E u t ∧ va_F A st t
section Runs
variable {p : Program} {l : Launch} {e : Env} {R : Room} {s : State} {m : MethodId} {args : Array Value} {below : List Frame} {meth : Method} {c : Code} {H : Heap} {locs : List Loc} {cells slots : Nat}
variable {y : MethodName} {bytes cc : ByteArray} {maxL nL mc ms n index : Nat} {ret : Option FieldType} {ws : List Cond} {rm : Room} {Pc : Array Value → State → Prop} {Qc : Array Value → State → Outcome → State → Prop} {XC : String → State → State → Prop} {free : Addr → Prop} {Ts : List Cond} {own C : String} {b : Addr} {As rest : List Value} {g : JFrame}
theorem vx_callBack (cb : CallB R s args own index y bytes maxL ret ws rm mc ms n) (hM : vx_Met l y ws rm Pc Qc XC mc ms free) (hbl : FrameBlind Pc) : vx_Back l R p e below s args y 3 8 (PreOf R mc ms Pc) (PostOf Qc mc ms free) (vx_Post XC mc ms free) := by
  obtain ⟨hrc, hrs, hfr, hlo, hws, hcw, -, hini, -⟩ := cb
  exact vx_back (bytes := bytes) (maxL := maxL) (ret := ret) hM hbl hrc hrs hfr hlo hws hcw (fun a' U hW => word_at hW (Or.inl (by first | rfl | simp [Cond.onTables, Cond.keeps, Cond.steady])) hini)
theorem vx_runV (S : CallFix p m c cc nL s args Ts own) (hM : vx_Met l y ws rm Pc Qc XC mc ms free) (cw : CallW R s args own C index y bytes maxL ret ws rm mc ms n) (hp : PreV s H C b Pc As)
    (hg : g.method = m) (hn : As.length = n) (hsize : g.locals.size = nL) (hstack : g.stack = As.reverse ++ .ref b :: rest) (hW : 2 * g.monitorRoom + (rest.map fun v => v.category).sum ≤ 8) (hdg : decode cc g.pc = .ok (.invokevirtual index, 3)) (hf : cells + mc ≤ R.cells ∧ slots + ms ≤ R.slots) :
    vx_Run p l e R s m args below meth c H locs cells slots mc ms g rest (Qc (Value.ref b :: As).toArray) XC free := by
  have hK : vx_Back l R p e below s args y 3 8 (PreOf R mc ms Pc) (PostOf Qc mc ms free) (vx_Post XC mc ms free) := vx_callBack cw.1 hM hp.1
  obtain ⟨⟨-, -, -, -, -, -, hcode, -, hy, hlen, hl⟩, hin, hse⟩ := cw
  obtain ⟨hx, hb, hml, ho, -⟩ := S
  obtain ⟨-, ⟨cellB, hcB, hoB, hclB⟩, hPc⟩ := hp
  intro T hT X
  rcases vx_callV X hx (C := C) (bytes := bytes) (maxL := maxL) (ret := ret) ho hl hin hse hcode hy hK (by rw [hT]; exact hcB) hoB hclB hg (hsize.trans hml.symm) (argsL := As) (rest := rest) (fun sig h => hn.trans (hlen sig h)) hstack hW (by rw [hb]; exact hdg)
    (fun vm₁ hW₁ => ⟨hf.1, hf.2, hPc (T.setVm vm₁) hT hW₁⟩) with ⟨v, vm₁, ⟨U', l2, c2, s2⟩, hW₁, X', ⟨g', mk, t, L, e1, e2, hq, h1, hL, h2, h3⟩, st⟩ | ⟨q, vm₁, ⟨U', l2, c2, s2⟩, hW₁, X', ⟨g', mk, t, L, E, ce, e1, e2, hq, hce, hcv, hcl, h1, hL, h2, h3⟩, st⟩
  · dsimp only [Pt.U, Pt.locs, Pt.cells, Pt.slots] at X' e1 e2 h1 h2 h3 st
    subst h1; subst h2; subst h3
    exact Or.inl ⟨v, (T.setVm vm₁).calling g' mk (Value.ref b :: As).toArray, t, U', L, hT, X', hL, e1, e2, hq, st⟩
  · dsimp only [Pt.U, Pt.locs, Pt.cells, Pt.slots] at X' e1 e2 h1 h2 h3 st hcl
    subst h1; subst h2; subst h3
    exact Or.inr ⟨q, (T.setVm vm₁).calling g' mk (Value.ref b :: As).toArray, t, U', L, E, ce, hT, X', hL, e1, e2, hq, hce, hcv, vx_cls hW₁ hcl, st⟩
theorem vx_runS (S : CallFix p m c cc nL s args Ts own) (hM : vx_Met l y ws rm Pc Qc XC mc ms free) (cw : CallB R s args own index y bytes maxL ret ws rm mc ms n ∧ (Cond.static y).before args s = true) (hp : PreS s H Pc As)
    (hg : g.method = m) (hn : As.length = n) (hsize : g.locals.size = nL) (hstack : g.stack = As.reverse ++ rest) (hW : 2 * g.monitorRoom + (rest.map fun v => v.category).sum ≤ 8) (hdg : decode cc g.pc = .ok (.invokestatic index, 3)) (hf : cells + mc ≤ R.cells ∧ slots + ms ≤ R.slots) :
    vx_Run p l e R s m args below meth c H locs cells slots mc ms g rest (Qc As.toArray) XC free := by
  have hK : vx_Back l R p e below s args y 3 8 (PreOf R mc ms Pc) (PostOf Qc mc ms free) (vx_Post XC mc ms free) := vx_callBack cw.1 hM hp.1
  obtain ⟨⟨-, -, -, -, -, -, hcode, hini, hy, hlen, hl⟩, hstt⟩ := cw
  obtain ⟨hx, hb, hml, ho, -⟩ := S
  intro T hT X
  rcases vx_callS X hx (bytes := bytes) (maxL := maxL) (ret := ret) ho hl hstt hini hcode hy hK hg (hsize.trans hml.symm) (argsL := As) (rest := rest) (fun sig h => hn.trans (hlen sig h)) hstack hW (by rw [hb]; exact hdg)
    (fun vm₁ hW₁ => ⟨hf.1, hf.2, hp.2 (T.setVm vm₁) hT hW₁⟩) with ⟨v, vm₁, ⟨U', l2, c2, s2⟩, hW₁, X', ⟨g', mk, t, L, e1, e2, hq, h1, hL, h2, h3⟩, st⟩ | ⟨q, vm₁, ⟨U', l2, c2, s2⟩, hW₁, X', ⟨g', mk, t, L, E, ce, e1, e2, hq, hce, hcv, hcl, h1, hL, h2, h3⟩, st⟩
  · dsimp only [Pt.U, Pt.locs, Pt.cells, Pt.slots] at X' e1 e2 h1 h2 h3 st
    subst h1; subst h2; subst h3
    exact Or.inl ⟨v, (T.setVm vm₁).calling g' mk As.toArray, t, U', L, hT, X', hL, e1, e2, hq, st⟩
  · dsimp only [Pt.U, Pt.locs, Pt.cells, Pt.slots] at X' e1 e2 h1 h2 h3 st hcl
    subst h1; subst h2; subst h3
    exact Or.inr ⟨q, (T.setVm vm₁).calling g' mk As.toArray, t, U', L, E, ce, hT, X', hL, e1, e2, hq, hce, hcv, vx_cls hW₁ hcl, st⟩
end Runs
section Rows
variable {p : Program} {l : Launch} {e : Env} {R : Room} {s : State} {m : MethodId} {args : Array Value} {below : List Frame} {meth : Method} {c : Code} {H : Heap} {locs : List Loc} {cells slots : Nat} {Q : State → Prop}
variable {mc ms : Nat} {free : Addr → Prop} {A0 A1 : Nat → Prop} {H0 : Heap} {a : Array Value} {pc : Nat} {ls : Array Slot} {st0 rest : List Value}
theorem vx_keep {st₀ t T' : State} {L : List Loc} (h0 : st₀.heap = H) (e1 : T'.heap = t.heap) (hS : va_S A0 H0 H locs) (hA : ∀ q, q < H.size → A1 q → A0 q) (hf : ∀ q, free q → A0 q) (hL : ∀ q ∈ L, free q.base) (hF : va_F A1 st₀ t) :
    H.size ≤ T'.heap.size ∧ (∀ q : Nat, q < H.size → ¬ A1 q → T'.heap[q]? = H[q]?) ∧ va_S A0 H0 T'.heap (locs ++ L) := by
  obtain ⟨hz, hk⟩ := hF
  rw [h0] at hz hk
  exact ⟨by rw [e1]; exact hz, fun q h1 h2 => by rw [e1]; exact hk q h1 h2,
    ⟨Nat.le_trans hS.1 (by rw [e1]; exact hz), fun q h1 h2 => by rw [e1, hk q (Nat.lt_of_lt_of_le h1 hS.1) (fun z => h2 (hA q (Nat.lt_of_lt_of_le h1 hS.1) z))]; exact hS.2.1 q h1 h2, fun q hq => by
      rcases List.mem_append.mp hq with h | h
      · exact hS.2.2 q h
      · exact hf _ (hL q h)⟩⟩
theorem vx_calli {S SX : Type} {post : Int32 → S → Prop} {px : SX → Prop} {B : S → State → Prop} {BX : String → SX → State → Prop} {AX : Nat → Prop} (hr : vx_Run p l e R s m args below meth c H locs cells slots mc ms (F0 m pc ls st0) rest (va_Qi post B A1 a) (vx_X px BX AX) free) (hS : va_S A0 H0 H locs) (hA : ∀ q, q < H.size → A1 q → A0 q) (hf : ∀ q, free q → A0 q) (hAX : ∀ q, q < H.size → AX q → A0 q)
    (kx : ∀ (E : String) (ce : Cell) (q9 : Addr) (u : SX) (t : State) (H1 : Heap) (locs1 : List Loc), t.heap = H1 → s.vm.Alike t.vm → px u → BX E u t → H.size ≤ H1.size → (∀ q : Nat, q < H.size → ¬ AX q → H1[q]? = H[q]?) → va_S A0 H0 H1 locs1 → H1[q9]? = some ce → ce.vm = .none → s.vm.findClass E = some ce.cls → vx_W p l e R s m args below meth c H1 locs1 (cells + mc) (slots + ms) Q (F0 m pc ls rest) q9)
    (kk : ∀ (r : Int32) (u : S) (t : State) (H1 : Heap) (locs1 : List Loc), t.heap = H1 → s.vm.Alike t.vm → post r u → B u t → H.size ≤ H1.size → (∀ q : Nat, q < H.size → ¬ A1 q → H1[q]? = H[q]?) → va_S A0 H0 H1 locs1 → W p l e R s m args below meth c H1 locs1 (cells + mc) (slots + ms) Q (F0 m (pc + 3) ls (.int r :: rest))) : W p l e R s m args below meth c H locs cells slots Q (F0 m pc ls st0) := by
  intro T hT X
  rcases hr T hT X with ⟨v, st₀, t, T', L, h0, X', hL, e1, e2, ⟨⟨r, u, hv, hp, hb⟩, hF⟩, st⟩ | ⟨q, st₀, t, T', L, E, ce, h0, X', hL, e1, e2, ⟨u, hp, hb, hF⟩, hce, hcv, hcl, st⟩
  · cases hv
    obtain ⟨k1, k2, k3⟩ := vx_keep h0 e1 hS hA hf hL hF
    obtain ⟨t2, a1, b1⟩ := kk r u t T'.heap (locs ++ L) e1.symm (by rw [← e2]; exact X'.warmed.alike) hp hb k1 k2 k3 T' rfl X'
    exact ⟨t2, st t2 a1, b1⟩
  · obtain ⟨k1, k2, k3⟩ := vx_keep h0 e1 hS hAX hf hL hF
    obtain ⟨t2, a1, b1⟩ := kx E ce q u t T'.heap (locs ++ L) e1.symm (by rw [← e2]; exact X'.warmed.alike) hp hb k1 k2 k3 (by rw [e1]; exact hce) hcv hcl T' rfl X'
    exact ⟨t2, st.trans a1, b1⟩
theorem vx_calll {S SX : Type} {post : Int64 → S → Prop} {px : SX → Prop} {B : S → State → Prop} {BX : String → SX → State → Prop} {AX : Nat → Prop} (hr : vx_Run p l e R s m args below meth c H locs cells slots mc ms (F0 m pc ls st0) rest (va_Ql post B A1 a) (vx_X px BX AX) free) (hS : va_S A0 H0 H locs) (hA : ∀ q, q < H.size → A1 q → A0 q) (hf : ∀ q, free q → A0 q) (hAX : ∀ q, q < H.size → AX q → A0 q)
    (kx : ∀ (E : String) (ce : Cell) (q9 : Addr) (u : SX) (t : State) (H1 : Heap) (locs1 : List Loc), t.heap = H1 → s.vm.Alike t.vm → px u → BX E u t → H.size ≤ H1.size → (∀ q : Nat, q < H.size → ¬ AX q → H1[q]? = H[q]?) → va_S A0 H0 H1 locs1 → H1[q9]? = some ce → ce.vm = .none → s.vm.findClass E = some ce.cls → vx_W p l e R s m args below meth c H1 locs1 (cells + mc) (slots + ms) Q (F0 m pc ls rest) q9)
    (kk : ∀ (r : Int64) (u : S) (t : State) (H1 : Heap) (locs1 : List Loc), t.heap = H1 → s.vm.Alike t.vm → post r u → B u t → H.size ≤ H1.size → (∀ q : Nat, q < H.size → ¬ A1 q → H1[q]? = H[q]?) → va_S A0 H0 H1 locs1 → W p l e R s m args below meth c H1 locs1 (cells + mc) (slots + ms) Q (F0 m (pc + 3) ls (.long r :: rest))) : W p l e R s m args below meth c H locs cells slots Q (F0 m pc ls st0) := by
  intro T hT X
  rcases hr T hT X with ⟨v, st₀, t, T', L, h0, X', hL, e1, e2, ⟨⟨r, u, hv, hp, hb⟩, hF⟩, st⟩ | ⟨q, st₀, t, T', L, E, ce, h0, X', hL, e1, e2, ⟨u, hp, hb, hF⟩, hce, hcv, hcl, st⟩
  · cases hv
    obtain ⟨k1, k2, k3⟩ := vx_keep h0 e1 hS hA hf hL hF
    obtain ⟨t2, a1, b1⟩ := kk r u t T'.heap (locs ++ L) e1.symm (by rw [← e2]; exact X'.warmed.alike) hp hb k1 k2 k3 T' rfl X'
    exact ⟨t2, st t2 a1, b1⟩
  · obtain ⟨k1, k2, k3⟩ := vx_keep h0 e1 hS hAX hf hL hF
    obtain ⟨t2, a1, b1⟩ := kx E ce q u t T'.heap (locs ++ L) e1.symm (by rw [← e2]; exact X'.warmed.alike) hp hb k1 k2 k3 (by rw [e1]; exact hce) hcv hcl T' rfl X'
    exact ⟨t2, st.trans a1, b1⟩
theorem vx_callf {S SX : Type} {post : UInt32 → S → Prop} {px : SX → Prop} {B : S → State → Prop} {BX : String → SX → State → Prop} {AX : Nat → Prop} (hr : vx_Run p l e R s m args below meth c H locs cells slots mc ms (F0 m pc ls st0) rest (va_Qf post B A1 a) (vx_X px BX AX) free) (hS : va_S A0 H0 H locs) (hA : ∀ q, q < H.size → A1 q → A0 q) (hf : ∀ q, free q → A0 q) (hAX : ∀ q, q < H.size → AX q → A0 q)
    (kx : ∀ (E : String) (ce : Cell) (q9 : Addr) (u : SX) (t : State) (H1 : Heap) (locs1 : List Loc), t.heap = H1 → s.vm.Alike t.vm → px u → BX E u t → H.size ≤ H1.size → (∀ q : Nat, q < H.size → ¬ AX q → H1[q]? = H[q]?) → va_S A0 H0 H1 locs1 → H1[q9]? = some ce → ce.vm = .none → s.vm.findClass E = some ce.cls → vx_W p l e R s m args below meth c H1 locs1 (cells + mc) (slots + ms) Q (F0 m pc ls rest) q9)
    (kk : ∀ (r : UInt32) (u : S) (t : State) (H1 : Heap) (locs1 : List Loc), t.heap = H1 → s.vm.Alike t.vm → post r u → B u t → H.size ≤ H1.size → (∀ q : Nat, q < H.size → ¬ A1 q → H1[q]? = H[q]?) → va_S A0 H0 H1 locs1 → W p l e R s m args below meth c H1 locs1 (cells + mc) (slots + ms) Q (F0 m (pc + 3) ls (.float r :: rest))) : W p l e R s m args below meth c H locs cells slots Q (F0 m pc ls st0) := by
  intro T hT X
  rcases hr T hT X with ⟨v, st₀, t, T', L, h0, X', hL, e1, e2, ⟨⟨r, u, hv, hp, hb⟩, hF⟩, st⟩ | ⟨q, st₀, t, T', L, E, ce, h0, X', hL, e1, e2, ⟨u, hp, hb, hF⟩, hce, hcv, hcl, st⟩
  · cases hv
    obtain ⟨k1, k2, k3⟩ := vx_keep h0 e1 hS hA hf hL hF
    obtain ⟨t2, a1, b1⟩ := kk r u t T'.heap (locs ++ L) e1.symm (by rw [← e2]; exact X'.warmed.alike) hp hb k1 k2 k3 T' rfl X'
    exact ⟨t2, st t2 a1, b1⟩
  · obtain ⟨k1, k2, k3⟩ := vx_keep h0 e1 hS hAX hf hL hF
    obtain ⟨t2, a1, b1⟩ := kx E ce q u t T'.heap (locs ++ L) e1.symm (by rw [← e2]; exact X'.warmed.alike) hp hb k1 k2 k3 (by rw [e1]; exact hce) hcv hcl T' rfl X'
    exact ⟨t2, st.trans a1, b1⟩
theorem vx_calld {S SX : Type} {post : UInt64 → S → Prop} {px : SX → Prop} {B : S → State → Prop} {BX : String → SX → State → Prop} {AX : Nat → Prop} (hr : vx_Run p l e R s m args below meth c H locs cells slots mc ms (F0 m pc ls st0) rest (va_Qd post B A1 a) (vx_X px BX AX) free) (hS : va_S A0 H0 H locs) (hA : ∀ q, q < H.size → A1 q → A0 q) (hf : ∀ q, free q → A0 q) (hAX : ∀ q, q < H.size → AX q → A0 q)
    (kx : ∀ (E : String) (ce : Cell) (q9 : Addr) (u : SX) (t : State) (H1 : Heap) (locs1 : List Loc), t.heap = H1 → s.vm.Alike t.vm → px u → BX E u t → H.size ≤ H1.size → (∀ q : Nat, q < H.size → ¬ AX q → H1[q]? = H[q]?) → va_S A0 H0 H1 locs1 → H1[q9]? = some ce → ce.vm = .none → s.vm.findClass E = some ce.cls → vx_W p l e R s m args below meth c H1 locs1 (cells + mc) (slots + ms) Q (F0 m pc ls rest) q9)
    (kk : ∀ (r : UInt64) (u : S) (t : State) (H1 : Heap) (locs1 : List Loc), t.heap = H1 → s.vm.Alike t.vm → post r u → B u t → H.size ≤ H1.size → (∀ q : Nat, q < H.size → ¬ A1 q → H1[q]? = H[q]?) → va_S A0 H0 H1 locs1 → W p l e R s m args below meth c H1 locs1 (cells + mc) (slots + ms) Q (F0 m (pc + 3) ls (.double r :: rest))) : W p l e R s m args below meth c H locs cells slots Q (F0 m pc ls st0) := by
  intro T hT X
  rcases hr T hT X with ⟨v, st₀, t, T', L, h0, X', hL, e1, e2, ⟨⟨r, u, hv, hp, hb⟩, hF⟩, st⟩ | ⟨q, st₀, t, T', L, E, ce, h0, X', hL, e1, e2, ⟨u, hp, hb, hF⟩, hce, hcv, hcl, st⟩
  · cases hv
    obtain ⟨k1, k2, k3⟩ := vx_keep h0 e1 hS hA hf hL hF
    obtain ⟨t2, a1, b1⟩ := kk r u t T'.heap (locs ++ L) e1.symm (by rw [← e2]; exact X'.warmed.alike) hp hb k1 k2 k3 T' rfl X'
    exact ⟨t2, st t2 a1, b1⟩
  · obtain ⟨k1, k2, k3⟩ := vx_keep h0 e1 hS hAX hf hL hF
    obtain ⟨t2, a1, b1⟩ := kx E ce q u t T'.heap (locs ++ L) e1.symm (by rw [← e2]; exact X'.warmed.alike) hp hb k1 k2 k3 (by rw [e1]; exact hce) hcv hcl T' rfl X'
    exact ⟨t2, st.trans a1, b1⟩
theorem vx_callv {S SX : Type} {post : S → Prop} {px : SX → Prop} {B : S → State → Prop} {BX : String → SX → State → Prop} {AX : Nat → Prop} (hr : vx_Run p l e R s m args below meth c H locs cells slots mc ms (F0 m pc ls st0) rest (va_Qv post B A1 a) (vx_X px BX AX) free) (hS : va_S A0 H0 H locs) (hA : ∀ q, q < H.size → A1 q → A0 q) (hf : ∀ q, free q → A0 q) (hAX : ∀ q, q < H.size → AX q → A0 q)
    (kx : ∀ (E : String) (ce : Cell) (q9 : Addr) (u : SX) (t : State) (H1 : Heap) (locs1 : List Loc), t.heap = H1 → s.vm.Alike t.vm → px u → BX E u t → H.size ≤ H1.size → (∀ q : Nat, q < H.size → ¬ AX q → H1[q]? = H[q]?) → va_S A0 H0 H1 locs1 → H1[q9]? = some ce → ce.vm = .none → s.vm.findClass E = some ce.cls → vx_W p l e R s m args below meth c H1 locs1 (cells + mc) (slots + ms) Q (F0 m pc ls rest) q9)
    (kk : ∀ (u : S) (t : State) (H1 : Heap) (locs1 : List Loc), t.heap = H1 → s.vm.Alike t.vm → post u → B u t → H.size ≤ H1.size → (∀ q : Nat, q < H.size → ¬ A1 q → H1[q]? = H[q]?) → va_S A0 H0 H1 locs1 → W p l e R s m args below meth c H1 locs1 (cells + mc) (slots + ms) Q (F0 m (pc + 3) ls (rest))) : W p l e R s m args below meth c H locs cells slots Q (F0 m pc ls st0) := by
  intro T hT X
  rcases hr T hT X with ⟨v, st₀, t, T', L, h0, X', hL, e1, e2, ⟨⟨u, hv, hp, hb⟩, hF⟩, st⟩ | ⟨q, st₀, t, T', L, E, ce, h0, X', hL, e1, e2, ⟨u, hp, hb, hF⟩, hce, hcv, hcl, st⟩
  · cases hv
    obtain ⟨k1, k2, k3⟩ := vx_keep h0 e1 hS hA hf hL hF
    obtain ⟨t2, a1, b1⟩ := kk u t T'.heap (locs ++ L) e1.symm (by rw [← e2]; exact X'.warmed.alike) hp hb k1 k2 k3 T' rfl X'
    exact ⟨t2, st t2 a1, b1⟩
  · obtain ⟨k1, k2, k3⟩ := vx_keep h0 e1 hS hAX hf hL hF
    obtain ⟨t2, a1, b1⟩ := kx E ce q u t T'.heap (locs ++ L) e1.symm (by rw [← e2]; exact X'.warmed.alike) hp hb k1 k2 k3 (by rw [e1]; exact hce) hcv hcl T' rfl X'
    exact ⟨t2, st.trans a1, b1⟩
/-- caught by the row x of this method's table; the rows ahead don't take it -/
theorem vx_catch {own name : String} {E : String} {ce : Cell} {q : Addr} (hown : s.vm.findClass own = some m.cls) (pre : List ExceptionTableEntry) (x : ExceptionTableEntry) (suf : List ExceptionTableEntry) (hsplit : c.exceptionTable.toList = pre ++ x :: suf)
    (hpass : ∀ z ∈ pre, covers z pc = false ∨ (z.catchType ≠ 0 ∧ ∃ nm : String, (Cond.classLink own z.catchType nm).before args s = true ∧ va_Nc E nm s)) (hx : covers x pc = true) (h0 : x.catchType ≠ 0)
    (hlink : (Cond.classLink own x.catchType name).before args s = true) (hcast : (Cond.castable E name).before args s = true) (hcell : H[q]? = some ce) (hv : ce.vm = .none) (hcl : s.vm.findClass E = some ce.cls)
    (kk : W p l e R s m args below meth c H locs cells slots Q (F0 m x.handlerPc ls [.ref q])) : vx_W p l e R s m args below meth c H locs cells slots Q (F0 m pc ls rest) q := by
  intro T hT X
  have hpl : e.platform.magicAccessors = ({} : Platform).magicAccessors := by rw [X.admits.platform]
  obtain ⟨c3, c4, hc3, hc4, hasg⟩ := Cond.castable_spec hcast
  cases Option.some.inj (hc3.symm.trans hcl)
  obtain ⟨c5, hc5, hcl5⟩ := Cond.classLink_spec hown hlink e.platform hpl
  cases Option.some.inj (hc4.symm.trans hc5)
  obtain ⟨vm', X', st⟩ := X.thenCaughtThrough q (g := F0 m pc ls rest) rfl (Steps.refl _) (by rw [hT]; exact hcell) (by rw [hv]; rfl) (by obtain ⟨k9, h9, -⟩ := Vm.findClass_spec hcl; exact ⟨k9, h9⟩) pre x suf hsplit
    (fun z hz => by
      rcases hpass z hz with h | ⟨hz0, nm, hl1, hn1⟩
      · exact Or.inl h
      · obtain ⟨c6, hc6, hcl6⟩ := Cond.classLink_spec hown hl1 e.platform hpl
        obtain ⟨a8, b8, h1, h2, h3⟩ := hn1
        cases Option.some.inj (h1.symm.trans hcl)
        cases Option.some.inj (h2.symm.trans hc6)
        exact Or.inr ⟨hz0, _, hcl6, h3⟩) hx (Or.inr ⟨h0, c4, hcl5, hasg⟩)
  obtain ⟨t, a1, b1⟩ := kk (T.setVm vm') hT X'
  exact ⟨t, st.trans a1, b1⟩
end Rows
section Ends
variable {p : Program} {l : Launch} {e : Env} {R : Room} {s : State} {m : MethodId} {args : Array Value} {below : List Frame} {meth : Method} {c : Code} {H : Heap} {locs : List Loc} {cells slots : Nat} {Q : State → Prop}
variable {mc ms : Nat} {free : Addr → Prop} {A0 A1 : Nat → Prop} {H0 : Heap} {a : Array Value} {ls : Array Slot} {st0 rest : List Value}
variable {Qc : Array Value → State → Outcome → State → Prop} {XC : String → State → State → Prop}
/-- what a body that may throw owes at its end -/
def vx_MQ (below : List Frame) (Qc : Array Value → State → Outcome → State → Prop) (XC : String → State → State → Prop) (a : Array Value) (s : State) (mc ms : Nat) (free : Addr → Prop) : State → Prop := fun t =>
  ∃ o, t.status = .running ∧ Ended t below o ∧ vx_Q Qc XC mc ms free a s o t
theorem vx_ret {g : JFrame} {mc ms : Nat} (k : W p l e R s m args below meth c H locs cells slots (MQ below Qc args s mc ms free) g) : W p l e R s m args below meth c H locs cells slots (vx_MQ below Qc XC args s mc ms free) g := by
  intro T hT X
  obtain ⟨t, a1, o, b1, b2, b3, b4⟩ := k T hT X
  exact ⟨t, a1, o, b1, b2, Or.inl ⟨b3, b4⟩⟩
/-- not caught here: it goes on to the caller -/
theorem vx_widen {g : JFrame} {q : Addr} {k n : Nat} (h1 : cells ≤ k) (h2 : slots ≤ n) (kk : vx_W p l e R s m args below meth c H locs k n Q g q) : vx_W p l e R s m args below meth c H locs cells slots Q g q := fun T hT X => kk T hT (stand_widen X h1 h2)
theorem vx_out {pc : Nat} {E : String} {ce : Cell} {q : Addr} {mc ms : Nat} (hout : ∀ x ∈ c.exceptionTable.toList, covers x pc = false) (hlocks : meth.locks = false) (hcell : H[q]? = some ce) (hv : ce.vm = .none) (hcl : s.vm.findClass E = some ce.cls)
    (hx : ∀ t : State, t.heap = H → s.vm.Alike t.vm → XC E s t) (hf : ∀ z ∈ locs, free z.base) (hc : cells ≤ mc) (hs : slots ≤ ms) :
    vx_W p l e R s m args below meth c H locs cells slots (vx_MQ below Qc XC args s mc ms free) (F0 m pc ls rest) q := by
  intro T hT X
  obtain ⟨st1, hrun, hend, hW, hsm⟩ := X.leaveThrown q (g := F0 m pc ls rest) rfl rfl rfl hout hlocks
  have hcell9 : (T.setFrames (.throwing q :: below)).heap[q]? = some ce := by
    show T.heap[q]? = some ce
    rw [hT]; exact hcell
  exact ⟨_, st1, .threw q, hrun, hend, Or.inr ⟨q, rfl, E, ce, locs, hx _ hT hW.alike, hcell9, hv, hcl, hW, hsm.mono hc hs, hf⟩⟩
theorem vx_frame {U : State} {k n : Nat} (h : s.sameButNew ({ U with vm := s.vm } : State) locs k n) : s.heap.size ≤ U.heap.size ∧ ∀ q : Nat, q < s.heap.size → (∀ z ∈ locs, z.base ≠ q) → U.heap[q]? = s.heap[q]? := by
  obtain ⟨-, h2, -, -, -, h6⟩ := h
  refine ⟨h2, fun q hq hz => ?_⟩
  obtain ⟨c9, e1, e2, e3, e4⟩ := h6 q _ (Array.getElem?_eq_getElem hq)
  have hs : c9.slots = (s.heap[q]).slots := Array.ext_getElem? fun i => e4 i fun hm => hz _ hm rfl
  have h9 : c9 = s.heap[q] := by
    rw [hs] at e2
    exact e2
  have e5 : U.heap[q]? = some c9 := e1
  rw [e5, h9, Array.getElem?_eq_getElem hq]
/-- the words of a throw but the four that speak of the heap -/
def vx_no (w : Cond) : Bool := decide (w ≠ .isRef (.static Bundle.tN "UNASSIGNED_STACK" Bundle.steD)) && decide (w ≠ .isRef (.static Bundle.tN "SUPPRESSED_SENTINEL" Bundle.listD)) && decide (w ≠ .laysStatic Bundle.tN "UNASSIGNED_STACK" Bundle.steD) && decide (w ≠ .laysStatic Bundle.tN "SUPPRESSED_SENTINEL" Bundle.listD)
def vx_at0 (own : String) (ic : Nat) (X : String) (names : List String) : List Cond := (Bundle.ownAtoms0 own ic X names).filter vx_no
def vx_atS (own : String) (ic : Nat) (X : String) (names : List String) : List Cond := (Bundle.ownAtoms own ic X names).filter vx_no
/-- a word that the tables alone decide, or a good one -/
def vx_ot (w : Cond) : Bool := w.onTables || goodWord w
theorem vx_ot_at {args a' : Array Value} {s U : State} {w : Cond} (hW : s.WarmedH U.vm) (hvm : s.vm = U.vm) (hg : vx_ot w = true) (h : w.before args s = true) : w.before a' U = true := by
  simp only [vx_ot, Bool.or_eq_true] at hg
  rcases hg with hg | hg
  · exact va_tabs hg hvm h
  · exact word_at hW (good_of_word hg) h
/-- a list's words: the good ones out of the method's own list, the others by premises of their own -/
theorem vx_hat {args : Array Value} {s : State} {L B : List Cond} (h1 : ∀ w ∈ L.filter goodWord, w.before args s = true) (h2 : ∀ w ∈ L.filter (fun w => !goodWord w), w ∈ B) (h3 : ∀ w ∈ B, w.before args s = true) : ∀ w ∈ L, w.before args s = true := by
  intro w hw
  by_cases g : goodWord w = true
  · exact h1 w (List.mem_filter.mpr ⟨hw, g⟩)
  · refine h3 w (h2 w (List.mem_filter.mpr ⟨hw, ?_⟩))
    show (!goodWord w) = true
    cases hgw : goodWord w
    · rfl
    · exact absurd hgw g
theorem vx_c {args : Array Value} {s : State} {w : Cond} {B : List Cond} (h : w.before args s = true) (t : ∀ w ∈ B, w.before args s = true) : ∀ w' ∈ w :: B, w'.before args s = true := fun w' h' => (List.mem_cons.mp h').elim (fun e => by rw [e]; exact h) (t w')
theorem vx_n {args : Array Value} {s : State} : ∀ w ∈ ([] : List Cond), w.before args s = true := fun _ h => nomatch h
theorem vx_own {args : Array Value} {s : State} {L : List Cond} (h1 : ∀ w ∈ L.filter vx_no, w.before args s = true)
    (hU : (Cond.isRef (.static Bundle.tN "UNASSIGNED_STACK" Bundle.steD)).before args s = true) (hN : (Cond.isRef (.static Bundle.tN "SUPPRESSED_SENTINEL" Bundle.listD)).before args s = true)
    (lU : (Cond.laysStatic Bundle.tN "UNASSIGNED_STACK" Bundle.steD).before args s = true) (lN : (Cond.laysStatic Bundle.tN "SUPPRESSED_SENTINEL" Bundle.listD).before args s = true) : ∀ w ∈ L, w.before args s = true := by
  intro w hw
  by_cases e1 : w = .isRef (.static Bundle.tN "UNASSIGNED_STACK" Bundle.steD)
  · rw [e1]; exact hU
  · by_cases e2 : w = .isRef (.static Bundle.tN "SUPPRESSED_SENTINEL" Bundle.listD)
    · rw [e2]; exact hN
    · by_cases e3 : w = .laysStatic Bundle.tN "UNASSIGNED_STACK" Bundle.steD
      · rw [e3]; exact lU
      · by_cases e4 : w = .laysStatic Bundle.tN "SUPPRESSED_SENTINEL" Bundle.listD
        · rw [e4]; exact lN
        · exact h1 w (List.mem_filter.mpr ⟨hw, by unfold vx_no; rw [decide_eq_true e1, decide_eq_true e2, decide_eq_true e3, decide_eq_true e4]; rfl⟩)
/-- where a static field lies, its class's statics cell in H -/
def vx_L (C n d : String) (A : Nat → Prop) (U : State) (H : Heap) : Prop := ∃ (c : ClassId) (k : Class) (i : Nat) (f : Field) (a : Nat) (cell : Cell), U.vm.findClass C = some c ∧ U.fieldFound? C n d = some (c, k, i, f) ∧ f.isStatic = true ∧ k.statics = some a ∧ H[a]? = some cell ∧ cell.vm.isStatics = true ∧ cell.cls = c ∧ f.slot < cell.slots.size ∧ k.staticTypes[f.slot]? = some f.type ∧ ¬ A a
theorem vx_L.moved {C n d : String} {A : Nat → Prop} {u U : State} {H : Heap} (hvm : u.vm.Alike U.vm) (h : vx_L C n d A u H) : vx_L C n d A U H := by
  obtain ⟨c, k, i, f, a, cell, h1, h2, h3, h4, h5, h6, h7, h8, h9, h10⟩ := h
  obtain ⟨k', hi', he⟩ := State.fieldFound?_setVm hvm h2
  exact ⟨c, k', i, f, a, cell, by rw [hvm.findClass]; exact h1, hi', h3, by rw [he]; exact h4, h5, h6, h7, h8, by rw [he]; exact h9, h10⟩
theorem vx_L.kept {C n d : String} {A : Nat → Prop} {U : State} {H H1 : Heap} (h : vx_L C n d A U H) (hq : ∀ a : Nat, a < H.size → ¬ A a → H1[a]? = H[a]?) : vx_L C n d A U H1 := by
  obtain ⟨c, k, i, f, a, cell, h1, h2, h3, h4, h5, h6, h7, h8, h9, h10⟩ := h
  exact ⟨c, k, i, f, a, cell, h1, h2, h3, h4, by rw [hq a (Array.getElem?_eq_some_iff.mp h5).1 h10]; exact h5, h6, h7, h8, h9, h10⟩
theorem vx_L.narrow {C n d : String} {A B : Nat → Prop} {U : State} {H : Heap} (h : vx_L C n d A U H) (hAB : ∀ q, B q → A q) : vx_L C n d B U H := by
  obtain ⟨c, k, i, f, a, cell, h1, h2, h3, h4, h5, h6, h7, h8, h9, h10⟩ := h
  exact ⟨c, k, i, f, a, cell, h1, h2, h3, h4, h5, h6, h7, h8, h9, fun z => h10 (hAB _ z)⟩
theorem vx_L.word {C n d : String} {A : Nat → Prop} {s : State} {args : Array Value} (h : vx_L C n d A s s.heap) : (Cond.laysStatic C n d).before args s = true := by
  obtain ⟨c, k, i, f, a, cell, h1, h2, h3, h4, h5, h6, h7, h8, h9, -⟩ := h
  show (Cond.laysStatic C n d).holds args s none s [] = true
  exact Cond.laysStatic_of h1 h2 h3 h4 h5 h6 h7 h8 h9
/-- .. and what it holds: null or some reference -/
def vx_Zq (C n d : String) (A : Nat → Prop) (U : State) (H : Heap) : Prop := va_Zq C n d A U H ∧ vx_L C n d A U H
theorem vx_Zq.moved {C n d : String} {A : Nat → Prop} {u U : State} {H : Heap} (hvm : u.vm.Alike U.vm) (h : vx_Zq C n d A u H) : vx_Zq C n d A U H := ⟨va_Zq.moved hvm h.1, vx_L.moved hvm h.2⟩
theorem vx_Zq.kept {C n d : String} {A : Nat → Prop} {U : State} {H H1 : Heap} (h : vx_Zq C n d A U H) (hq : ∀ a : Nat, a < H.size → ¬ A a → H1[a]? = H[a]?) : vx_Zq C n d A U H1 := ⟨va_Zq.kept h.1 hq, vx_L.kept h.2 hq⟩
theorem vx_Zq.narrow {C n d : String} {A B : Nat → Prop} {U : State} {H : Heap} (h : vx_Zq C n d A U H) (hAB : ∀ q, B q → A q) : vx_Zq C n d B U H := ⟨va_Zq.narrow h.1 hAB, vx_L.narrow h.2 hAB⟩
theorem vx_Zqof {args : Array Value} {s : State} {C n d : String} {A : Nat → Prop} (hl : (Cond.laysStatic C n d).before args s = true) (hini : (Cond.initialized C).before args s = true) (h : (Cond.isRef (.static C n d)).before args s = true) (hA : ∀ a : Nat, a < s.heap.size → ¬ A a) : vx_Zq C n d A s s.heap := by
  refine ⟨va_Zqof hl hini h hA, ?_⟩
  obtain ⟨c, k, i, f, a, cell, h1, h2, h3, h4, h5, h6, h7, h8, h9⟩ := Cond.laysStatic_spec hl
  exact ⟨c, k, i, f, a, cell, h1, h2, h3, h4, h5, h6, h7, h8, h9, hA a (Array.getElem?_eq_some_iff.mp h5).1⟩
theorem vx_isRef {C n d : String} {v : Value} {A : Nat → Prop} {s : State} {args : Array Value} (h : va_Z C n d v A s s.heap) (hv : v.isRef = true) : (Cond.isRef (.static C n d)).before args s = true := by
  obtain ⟨cf, kf, fi, f, a, cell, h1, h2, h3, h4, h5, h6, h7, -⟩ := h
  have he : (Term.static C n d).eval args s none [] s = some v := by
    simp [Term.eval, State.fieldNamed?, h1, h2, h4, h5, h6, h7]
  simp only [Cond.before, Cond.holds, Cond.value, he]
  cases v <;> simp_all [Value.isRef]
theorem vx_isRefq {C n d : String} {A : Nat → Prop} {s : State} {args : Array Value} (h : va_Zq C n d A s s.heap) : (Cond.isRef (.static C n d)).before args s = true := by
  rcases h with h | ⟨t, h⟩
  · exact vx_isRef h rfl
  · exact vx_isRef h rfl
/-- the same frame, seen from here: as if the method were called anew in this heap -/
theorem vx_rebase {T : State} (X : Stand p l e R s m args below meth c T locs cells slots) {R' : Room} (hf : R'.frames ≤ R.frames) (hl : R'.locals ≤ R.locals) (hc : cells + R'.cells ≤ R.cells) (hs : slots + R'.slots ≤ R.slots) :
    Stand p l e R' ((T.setVm s.vm).setFrames (.invoking m args :: below)) m args below meth c T [] 0 0 := by
  have htop : (T.setVm s.vm).topJava?.isSome := X.here.top
  have hF : ((T.setVm s.vm).setFrames (.invoking m args :: below)).frames = .invoking m args :: below := State.frames_setFrames _ (State.cur_lt_of_top htop)
  obtain ⟨g₀, hg0⟩ := Option.isSome_iff_exists.mp htop
  obtain ⟨r, hr⟩ := State.topJava?_eq_some.mp hg0
  have hl9 : e.platform.stackLimits (T.setVm s.vm).me = e.platform.stackLimits s.me := X.limits
  have hb9 : (T.setVm s.vm).me.stackBytes = s.me.stackBytes := X.bytes
  refine ⟨X.admits, X.cas, X.clock, hF, ?_, X.hears, X.method, X.code, X.here, X.tail, X.warmed, ?_, ?_, ?_⟩
  · have h := X.room
    have hU : ((T.setVm s.vm).setFrames (.invoking m args :: below)).localsInUse = s.localsInUse := by
      rw [State.localsInUse_invoking hF (meth := meth) (c := c) X.method X.code, State.localsInUse_invoking X.frames X.method X.code]
    simp only [State.hasRoom, Bool.and_eq_true, decide_eq_true_eq] at h ⊢
    obtain ⟨⟨⟨⟨h1, h2, h3, h4, h5, h6⟩, h7⟩, h8⟩, h9⟩ := h
    rw [X.frames, List.length_cons] at h2 h3
    have q1 := X.heapSize
    have q2 := X.used
    simp only [hF, hU, List.length_cons, State.stackLimits_setFrames, State.stackBytes_setFrames, hl9, hb9]
    refine ⟨⟨⟨⟨by omega, by omega, by omega, by omega, by omega, h6⟩, ?_⟩, ?_⟩, X.book⟩
    · show T.heap.size + R'.cells ≤ e.platform.maxCells
      omega
    · show T.slotsUsed + R'.slots ≤ e.platform.maxSlots
      omega
  · rw [State.stackLimits_setFrames]; rfl
  · rw [State.stackBytes_setFrames]; rfl
  · refine ⟨?_, Nat.le_refl _, Nat.le_refl _, ?_, ?_, fun a c9 h9 => ⟨c9, h9, rfl, rfl, fun _ _ => rfl⟩⟩
    · obtain ⟨t, ht, -⟩ := State.frames_cons hr
      show T.setVm s.vm = { ((T.setVm s.vm).setFrames (.invoking m args :: below)).setFrames (T.setVm s.vm).frames with heap := T.heap, slotsUsed := T.slotsUsed }
      rw [State.setFrames_setFrames, State.setFrames_self ht]
      rfl
    · show T.slotsUsed = T.slotsUsed + ((T.heap.toList.drop T.heap.size).map (·.slots.size)).sum
      rw [List.drop_eq_nil_of_le (Nat.le_of_eq Array.length_toList)]
      rfl
    · show ((T.heap.toList.drop T.heap.size).map (·.slots.size)).sum ≤ 0
      rw [List.drop_eq_nil_of_le (Nat.le_of_eq Array.length_toList)]
      exact Nat.le_refl _
/-- 'throw new E()': new; dup; invokespecial; athrow -/
theorem vx_throw0 {cc : ByteArray} {pc : Nat} (hexec : p.tables.exec = Jvm.exec) (hb : c.code = cc) (hl : l.stackTraces = false) {own cls : String} {names : List String} {ik ic mc ms : Nat} {A : Nat → Prop}
    (hown : s.vm.findClass own = some m.cls) (hcls : Bundle.fit cls = true) (hnames : ∀ n ∈ names, Bundle.fit n = true)
    (hk : (Cond.classLink own ik cls).before args s = true) (hini : (Cond.initialized cls).before args s = true) (hat : ∀ w ∈ vx_at0 own ic cls names, w.before args s = true)
    (hgood : ∀ w ∈ Cond.classLink own ik cls :: Cond.initialized cls :: vx_at0 own ic cls names, vx_ot w = true)
    (hU : vx_Zq Bundle.tN "UNASSIGNED_STACK" Bundle.steD A s s.heap) (hN : vx_Zq Bundle.tN "SUPPRESSED_SENTINEL" Bundle.listD A s s.heap) (hS : va_S A s.heap H locs) (hsize : ls.size = c.maxLocals)
    (d0 : decode cc pc = .ok (.new ik, 3)) (d3 : decode cc (pc + 3) = .ok (.dup, 1)) (d4 : decode cc (pc + 4) = .ok (.invokespecial ic, 3)) (d7 : decode cc (pc + 7) = .ok (.athrow, 1))
    (hout : ∀ x ∈ c.exceptionTable.toList, covers x (pc + 7) = false)
    (hRframes : names.length + 3 < R.frames) (hRlocals : (rest.map fun v => v.category).sum + (13 * (names.length + 1) + 42) ≤ R.locals) (hRcells : cells + 1 ≤ R.cells) (hRslots : slots + 6 ≤ R.slots) (hlocks : meth.locks = false)
    (hx : ∀ t : State, s.vm.Alike t.vm → H.size ≤ t.heap.size → (∀ q : Nat, q < H.size → t.heap[q]? = H[q]?) → XC cls s t)
    (hf : ∀ z ∈ locs, free z.base) (hc : cells + 1 ≤ mc) (hs : slots + 6 ≤ ms) :
    W p l e R s m args below meth c H locs cells slots (vx_MQ below Qc XC args s mc ms free) (F0 m pc ls rest) := by
  intro T hT X
  have htr : e.platform.stackTraces = false := (show e.platform.stackTraces = l.stackTraces by rw [X.admits.platform]).trans hl
  have Y := vx_rebase X (R' := { frames := R.frames, locals := R.locals, cells := 1, slots := 6 }) (Nat.le_refl _) (Nat.le_refl _) hRcells hRslots
  obtain ⟨s', hA⟩ : ∃ z, z = (T.setVm s.vm).setFrames (.invoking m args :: below) := ⟨_, rfl⟩
  rw [← hA] at Y
  have hvm : s'.vm = s.vm := by rw [hA]; rfl
  have hhp : s'.heap = H := by rw [hA]; exact hT
  have hW0 : s.WarmedH s'.vm := by rw [hvm]; exact State.WarmedH.refl s
  have hat' : ∀ w ∈ vx_at0 own ic cls names, w.before args s' = true := fun w hw => vx_ot_at hW0 hvm.symm (hgood w (List.mem_cons_of_mem _ (List.mem_cons_of_mem _ hw))) (hat w hw)
  have hk' : (Cond.classLink own ik cls).before args s' = true := vx_ot_at hW0 hvm.symm (hgood _ List.mem_cons_self) hk
  have hini' : (Cond.initialized cls).before args s' = true := vx_ot_at hW0 hvm.symm (hgood _ (List.mem_cons_of_mem _ List.mem_cons_self)) hini
  have hU' : vx_Zq Bundle.tN "UNASSIGNED_STACK" Bundle.steD A s' s'.heap := by rw [hhp]; exact vx_Zq.moved hW0.alike (hU.kept hS.2.1)
  have hN' : vx_Zq Bundle.tN "SUPPRESSED_SENTINEL" Bundle.listD A s' s'.heap := by rw [hhp]; exact vx_Zq.moved hW0.alike (hN.kept hS.2.1)
  have h : ∀ w ∈ Bundle.ownAtoms0 own ic cls names, w.before args s' = true := vx_own hat' (vx_isRefq hU'.1) (vx_isRefq hN'.1) hU'.2.word hN'.2.word
  have hown' : s'.vm.findClass own = some m.cls := by rw [hvm]; exact hown
  have hins : (Cond.instantiable cls 6).before args s' = true := h _ (by simp [Bundle.ownAtoms0])
  obtain ⟨vm₁, cX, kX, hfX, hkX, -, -, X₁, st1⟩ := Y.newCold hexec (own := own) (C := cls) (index := ik) (n := 6) hown' hk' hins hini'
    (g := F0 m pc ls rest) rfl (by rw [hb]; exact d0) (Nat.le_refl _) (Nat.le_refl _)
  generalize hT1 : (T.setVm vm₁).pushCell { cls := cX, slots := kX.instanceTypes.map defaultValue, vm := .none } = T1 at X₁ st1
  have hcat : (Value.ref T.heap.size).category = 1 := rfl
  have hcellA : T1.heap[T.heap.size]? = some (freshCell cX kX) := by rw [← hT1]; exact State.heap_pushCell_size _ _
  have d3' : decode c.code (pc + 3) = .ok (.dup, 1) := by rw [hb]; exact d3
  obtain ⟨U, hsteps, hrun, hend, hW, hsame, ce, hce, hO⟩ := X₁.ctorThrow0 hexec htr (own := own) (cls := cls) (names := names) (ic := ic) hown' hcls hnames h (fun x hx => nomatch hx) hfX hkX hcellA (by rw [hhp, hT]; exact Nat.le_refl _)
    (g := { method := m, pc := pc + 4, locals := ls, stack := .ref T.heap.size :: .ref T.heap.size :: rest, locked := none }) rfl hsize rfl rfl (rest := rest) rfl
    (by rw [hb]; exact d4) (by rw [hb]; exact d7) hout hRframes (by simp only [List.map_cons, List.sum_cons, hcat]; omega) hlocks
  obtain ⟨f1, f2⟩ := vx_frame hsame
  rw [hhp] at f1 f2
  have hWs : s.WarmedH U.vm := State.WarmedH.trans hW0 hW
  have hcl : s.vm.findClass cls = some ce.cls := by
    have h9 := hO.cls
    rw [hvm] at h9
    exact h9
  have hall : s.sameButNew ({ U with vm := s.vm } : State) locs mc ms := by
    subst hA
    obtain ⟨e1, e2⟩ := hsame
    rw [State.setFrames_setFrames] at e1
    have h2 : (T.setVm s.vm).sameButNew ({ U with vm := s.vm } : State) [] (0 + 1) (0 + 6) := ⟨e1, e2⟩
    have h3 := X.same.trans h2
    rw [List.append_nil] at h3
    exact h3.mono hc hs
  refine ⟨U, ?_, .threw T.heap.size, hrun, hend, Or.inr ⟨T.heap.size, rfl, cls, ce, locs, hx U hWs.alike f1 (fun q hq => f2 q hq (fun z hz => nomatch hz)), hce, hO.vm, hcl, hWs, hall, hf⟩⟩
  refine st1 _ ?_
  show Steps p.tables e below (T1.setTop { method := m, pc := pc + 3, locals := ls, stack := .ref T.heap.size :: rest, locked := none }) _
  jvm_step X₁.here [X₁.here.top, hexec, d3', Value.category]
  exact hsteps
/-- 'throw new E("text")': new; dup; ldc; invokespecial; athrow -/
theorem vx_throwS {cc : ByteArray} {pc : Nat} (hexec : p.tables.exec = Jvm.exec) (hb : c.code = cc) (hl : l.stackTraces = false) {own cls text : String} {names : List String} {ik is ic mc ms sa : Nat} {A : Nat → Prop}
    (hown : s.vm.findClass own = some m.cls) (hcls : Bundle.fit cls = true) (hnames : ∀ n ∈ names, Bundle.fit n = true)
    (hk : (Cond.classLink own ik cls).before args s = true) (hini : (Cond.initialized cls).before args s = true) (hstr : vk_R own is text sa s) (hat : ∀ w ∈ vx_atS own ic cls names, w.before args s = true)
    (hgood : ∀ w ∈ Cond.classLink own ik cls :: Cond.initialized cls :: vx_atS own ic cls names, vx_ot w = true)
    (hU : vx_Zq Bundle.tN "UNASSIGNED_STACK" Bundle.steD A s s.heap) (hN : vx_Zq Bundle.tN "SUPPRESSED_SENTINEL" Bundle.listD A s s.heap) (hS : va_S A s.heap H locs) (hsize : ls.size = c.maxLocals)
    (d0 : decode cc pc = .ok (.new ik, 3)) (d3 : decode cc (pc + 3) = .ok (.dup, 1)) (d4 : decode cc (pc + 4) = .ok (.ldc is, 2)) (d6 : decode cc (pc + 6) = .ok (.invokespecial ic, 3)) (d9 : decode cc (pc + 9) = .ok (.athrow, 1))
    (hout : ∀ x ∈ c.exceptionTable.toList, covers x (pc + 9) = false)
    (hRframes : names.length + 3 < R.frames) (hRlocals : (rest.map fun v => v.category).sum + (13 * (names.length + 1) + 43) ≤ R.locals) (hRcells : cells + 1 ≤ R.cells) (hRslots : slots + 6 ≤ R.slots) (hlocks : meth.locks = false)
    (hx : ∀ t : State, s.vm.Alike t.vm → H.size ≤ t.heap.size → (∀ q : Nat, q < H.size → t.heap[q]? = H[q]?) → XC cls s t)
    (hf : ∀ z ∈ locs, free z.base) (hc : cells + 1 ≤ mc) (hs : slots + 6 ≤ ms) :
    W p l e R s m args below meth c H locs cells slots (vx_MQ below Qc XC args s mc ms free) (F0 m pc ls rest) := by
  intro T hT X
  have htr : e.platform.stackTraces = false := (show e.platform.stackTraces = l.stackTraces by rw [X.admits.platform]).trans hl
  have Y := vx_rebase X (R' := { frames := R.frames, locals := R.locals, cells := 1, slots := 6 }) (Nat.le_refl _) (Nat.le_refl _) hRcells hRslots
  obtain ⟨s', hA⟩ : ∃ z, z = (T.setVm s.vm).setFrames (.invoking m args :: below) := ⟨_, rfl⟩
  rw [← hA] at Y
  have hvm : s'.vm = s.vm := by rw [hA]; rfl
  have hhp : s'.heap = H := by rw [hA]; exact hT
  have hW0 : s.WarmedH s'.vm := by rw [hvm]; exact State.WarmedH.refl s
  have hat' : ∀ w ∈ vx_atS own ic cls names, w.before args s' = true := fun w hw => vx_ot_at hW0 hvm.symm (hgood w (List.mem_cons_of_mem _ (List.mem_cons_of_mem _ hw))) (hat w hw)
  have hk' : (Cond.classLink own ik cls).before args s' = true := vx_ot_at hW0 hvm.symm (hgood _ List.mem_cons_self) hk
  have hini' : (Cond.initialized cls).before args s' = true := vx_ot_at hW0 hvm.symm (hgood _ (List.mem_cons_of_mem _ List.mem_cons_self)) hini
  have hU' : vx_Zq Bundle.tN "UNASSIGNED_STACK" Bundle.steD A s' s'.heap := by rw [hhp]; exact vx_Zq.moved hW0.alike (hU.kept hS.2.1)
  have hN' : vx_Zq Bundle.tN "SUPPRESSED_SENTINEL" Bundle.listD A s' s'.heap := by rw [hhp]; exact vx_Zq.moved hW0.alike (hN.kept hS.2.1)
  have h : ∀ w ∈ Bundle.ownAtoms own ic cls names, w.before args s' = true := vx_own hat' (vx_isRefq hU'.1) (vx_isRefq hN'.1) hU'.2.word hN'.2.word
  have hown' : s'.vm.findClass own = some m.cls := by rw [hvm]; exact hown
  have hins : (Cond.instantiable cls 6).before args s' = true := h _ (by simp [Bundle.ownAtoms])
  obtain ⟨vm₁, cX, kX, hfX, hkX, -, -, X₁, st1⟩ := Y.newCold hexec (own := own) (C := cls) (index := ik) (n := 6) hown' hk' hins hini'
    (g := F0 m pc ls rest) rfl (by rw [hb]; exact d0) (Nat.le_refl _) (Nat.le_refl _)
  generalize hT1 : (T.setVm vm₁).pushCell { cls := cX, slots := kX.instanceTypes.map defaultValue, vm := .none } = T1 at X₁ st1
  have hcat : (Value.ref T.heap.size).category = 1 := rfl
  have hcellA : T1.heap[T.heap.size]? = some (freshCell cX kX) := by rw [← hT1]; exact State.heap_pushCell_size _ _
  have d3' : decode c.code (pc + 3) = .ok (.dup, 1) := by rw [hb]; exact d3
  have d4' : decode c.code (pc + 4) = .ok (.ldc is, 2) := by rw [hb]; exact d4
  have hstr' : vk_R own is text sa s' := vk_R.warm hW0 hstr
  obtain ⟨U, hsteps, hrun, hend, hW, hsame, ce, hce, hO⟩ := X₁.ctorThrowS hexec htr (own := own) (cls := cls) (names := names) (ic := ic) hown' hcls hnames h (fun x hx => nomatch hx) hfX hkX hcellA (by rw [hhp, hT]; exact Nat.le_refl _) (msg := .ref sa) rfl
    (g := { method := m, pc := pc + 6, locals := ls, stack := .ref sa :: .ref T.heap.size :: .ref T.heap.size :: rest, locked := none }) rfl hsize rfl rfl (rest := rest) rfl
    (by rw [hb]; exact d6) (by rw [hb]; exact d9) hout hRframes (by simp only [List.map_cons, List.sum_cons, hcat]; omega) hlocks
  obtain ⟨f1, f2⟩ := vx_frame hsame
  rw [hhp] at f1 f2
  have hWs : s.WarmedH U.vm := State.WarmedH.trans hW0 hW
  have hcl : s.vm.findClass cls = some ce.cls := by
    have h9 := hO.cls
    rw [hvm] at h9
    exact h9
  have hall : s.sameButNew ({ U with vm := s.vm } : State) locs mc ms := by
    subst hA
    obtain ⟨e1, e2⟩ := hsame
    rw [State.setFrames_setFrames] at e1
    have h2 : (T.setVm s.vm).sameButNew ({ U with vm := s.vm } : State) [] (0 + 1) (0 + 6) := ⟨e1, e2⟩
    have h3 := X.same.trans h2
    rw [List.append_nil] at h3
    exact h3.mono hc hs
  refine ⟨U, ?_, .threw T.heap.size, hrun, hend, Or.inr ⟨T.heap.size, rfl, cls, ce, locs, hx U hWs.alike f1 (fun q hq => f2 q hq (fun z hz => nomatch hz)), hce, hO.vm, hcl, hWs, hall, hf⟩⟩
  refine st1 _ ?_
  show Steps p.tables e below (T1.setTop { method := m, pc := pc + 3, locals := ls, stack := .ref T.heap.size :: rest, locked := none }) _
  jvm_step X₁.here [X₁.here.top, hexec, d3', Value.category]
  exact X₁.ldcString hexec (own := own) (text := text) (index := is) (a := sa) hown' hstr'.1 hstr'.2
    (g := { method := m, pc := pc + 4, locals := ls, stack := .ref T.heap.size :: .ref T.heap.size :: rest, locked := none }) rfl d4' _ hsteps
/-- 'throw new E("text")', the text by a wide index -/
theorem vx_throwSW {cc : ByteArray} {pc : Nat} (hexec : p.tables.exec = Jvm.exec) (hb : c.code = cc) (hl : l.stackTraces = false) {own cls text : String} {names : List String} {ik is ic mc ms sa : Nat} {A : Nat → Prop}
    (hown : s.vm.findClass own = some m.cls) (hcls : Bundle.fit cls = true) (hnames : ∀ n ∈ names, Bundle.fit n = true)
    (hk : (Cond.classLink own ik cls).before args s = true) (hini : (Cond.initialized cls).before args s = true) (hstr : vk_R own is text sa s) (hat : ∀ w ∈ vx_atS own ic cls names, w.before args s = true)
    (hgood : ∀ w ∈ Cond.classLink own ik cls :: Cond.initialized cls :: vx_atS own ic cls names, vx_ot w = true)
    (hU : vx_Zq Bundle.tN "UNASSIGNED_STACK" Bundle.steD A s s.heap) (hN : vx_Zq Bundle.tN "SUPPRESSED_SENTINEL" Bundle.listD A s s.heap) (hS : va_S A s.heap H locs) (hsize : ls.size = c.maxLocals)
    (d0 : decode cc pc = .ok (.new ik, 3)) (d3 : decode cc (pc + 3) = .ok (.dup, 1)) (d4 : decode cc (pc + 4) = .ok (.ldc_w is, 3)) (d7 : decode cc (pc + 7) = .ok (.invokespecial ic, 3)) (d10 : decode cc (pc + 10) = .ok (.athrow, 1))
    (hout : ∀ x ∈ c.exceptionTable.toList, covers x (pc + 10) = false)
    (hRframes : names.length + 3 < R.frames) (hRlocals : (rest.map fun v => v.category).sum + (13 * (names.length + 1) + 43) ≤ R.locals) (hRcells : cells + 1 ≤ R.cells) (hRslots : slots + 6 ≤ R.slots) (hlocks : meth.locks = false)
    (hx : ∀ t : State, s.vm.Alike t.vm → H.size ≤ t.heap.size → (∀ q : Nat, q < H.size → t.heap[q]? = H[q]?) → XC cls s t)
    (hf : ∀ z ∈ locs, free z.base) (hc : cells + 1 ≤ mc) (hs : slots + 6 ≤ ms) :
    W p l e R s m args below meth c H locs cells slots (vx_MQ below Qc XC args s mc ms free) (F0 m pc ls rest) := by
  intro T hT X
  have htr : e.platform.stackTraces = false := (show e.platform.stackTraces = l.stackTraces by rw [X.admits.platform]).trans hl
  have Y := vx_rebase X (R' := { frames := R.frames, locals := R.locals, cells := 1, slots := 6 }) (Nat.le_refl _) (Nat.le_refl _) hRcells hRslots
  obtain ⟨s', hA⟩ : ∃ z, z = (T.setVm s.vm).setFrames (.invoking m args :: below) := ⟨_, rfl⟩
  rw [← hA] at Y
  have hvm : s'.vm = s.vm := by rw [hA]; rfl
  have hhp : s'.heap = H := by rw [hA]; exact hT
  have hW0 : s.WarmedH s'.vm := by rw [hvm]; exact State.WarmedH.refl s
  have hat' : ∀ w ∈ vx_atS own ic cls names, w.before args s' = true := fun w hw => vx_ot_at hW0 hvm.symm (hgood w (List.mem_cons_of_mem _ (List.mem_cons_of_mem _ hw))) (hat w hw)
  have hk' : (Cond.classLink own ik cls).before args s' = true := vx_ot_at hW0 hvm.symm (hgood _ List.mem_cons_self) hk
  have hini' : (Cond.initialized cls).before args s' = true := vx_ot_at hW0 hvm.symm (hgood _ (List.mem_cons_of_mem _ List.mem_cons_self)) hini
  have hU' : vx_Zq Bundle.tN "UNASSIGNED_STACK" Bundle.steD A s' s'.heap := by rw [hhp]; exact vx_Zq.moved hW0.alike (hU.kept hS.2.1)
  have hN' : vx_Zq Bundle.tN "SUPPRESSED_SENTINEL" Bundle.listD A s' s'.heap := by rw [hhp]; exact vx_Zq.moved hW0.alike (hN.kept hS.2.1)
  have h : ∀ w ∈ Bundle.ownAtoms own ic cls names, w.before args s' = true := vx_own hat' (vx_isRefq hU'.1) (vx_isRefq hN'.1) hU'.2.word hN'.2.word
  have hown' : s'.vm.findClass own = some m.cls := by rw [hvm]; exact hown
  have hins : (Cond.instantiable cls 6).before args s' = true := h _ (by simp [Bundle.ownAtoms])
  obtain ⟨vm₁, cX, kX, hfX, hkX, -, -, X₁, st1⟩ := Y.newCold hexec (own := own) (C := cls) (index := ik) (n := 6) hown' hk' hins hini'
    (g := F0 m pc ls rest) rfl (by rw [hb]; exact d0) (Nat.le_refl _) (Nat.le_refl _)
  generalize hT1 : (T.setVm vm₁).pushCell { cls := cX, slots := kX.instanceTypes.map defaultValue, vm := .none } = T1 at X₁ st1
  have hcat : (Value.ref T.heap.size).category = 1 := rfl
  have hcellA : T1.heap[T.heap.size]? = some (freshCell cX kX) := by rw [← hT1]; exact State.heap_pushCell_size _ _
  have d3' : decode c.code (pc + 3) = .ok (.dup, 1) := by rw [hb]; exact d3
  have d4' : decode c.code (pc + 4) = .ok (.ldc_w is, 3) := by rw [hb]; exact d4
  have hstr' : vk_R own is text sa s' := vk_R.warm hW0 hstr
  obtain ⟨U, hsteps, hrun, hend, hW, hsame, ce, hce, hO⟩ := X₁.ctorThrowS hexec htr (own := own) (cls := cls) (names := names) (ic := ic) hown' hcls hnames h (fun x hx => nomatch hx) hfX hkX hcellA (by rw [hhp, hT]; exact Nat.le_refl _) (msg := .ref sa) rfl
    (g := { method := m, pc := pc + 7, locals := ls, stack := .ref sa :: .ref T.heap.size :: .ref T.heap.size :: rest, locked := none }) rfl hsize rfl rfl (rest := rest) rfl
    (by rw [hb]; exact d7) (by rw [hb]; exact d10) hout hRframes (by simp only [List.map_cons, List.sum_cons, hcat]; omega) hlocks
  obtain ⟨f1, f2⟩ := vx_frame hsame
  rw [hhp] at f1 f2
  have hWs : s.WarmedH U.vm := State.WarmedH.trans hW0 hW
  have hcl : s.vm.findClass cls = some ce.cls := by
    have h9 := hO.cls
    rw [hvm] at h9
    exact h9
  have hall : s.sameButNew ({ U with vm := s.vm } : State) locs mc ms := by
    subst hA
    obtain ⟨e1, e2⟩ := hsame
    rw [State.setFrames_setFrames] at e1
    have h2 : (T.setVm s.vm).sameButNew ({ U with vm := s.vm } : State) [] (0 + 1) (0 + 6) := ⟨e1, e2⟩
    have h3 := X.same.trans h2
    rw [List.append_nil] at h3
    exact h3.mono hc hs
  refine ⟨U, ?_, .threw T.heap.size, hrun, hend, Or.inr ⟨T.heap.size, rfl, cls, ce, locs, hx U hWs.alike f1 (fun q hq => f2 q hq (fun z hz => nomatch hz)), hce, hO.vm, hcl, hWs, hall, hf⟩⟩
  refine st1 _ ?_
  show Steps p.tables e below (T1.setTop { method := m, pc := pc + 3, locals := ls, stack := .ref T.heap.size :: rest, locked := none }) _
  jvm_step X₁.here [X₁.here.top, hexec, d3', Value.category]
  exact X₁.ldcStringW hexec (own := own) (text := text) (index := is) (a := sa) hown' hstr'.1 hstr'.2
    (g := { method := m, pc := pc + 4, locals := ls, stack := .ref T.heap.size :: .ref T.heap.size :: rest, locked := none }) rfl d4' _ hsteps
end Ends
section Bodies
variable {l : Launch}
theorem vx_ofW {y : MethodName} {ws ws' : List Cond} {rm : Room} {Pc : Array Value → State → Prop} {Qc : Array Value → State → Outcome → State → Prop} {XC : String → State → State → Prop} {mc ms : Nat} {free : Addr → Prop} {cc : ByteArray} {maxL : Nat} {ret : Option FieldType}
    (hy : plainName y.cls = true) (hw : ws = Cond.code y cc maxL ret :: ws')
    (body : ∀ p e s m args below meth c s₁, BodyLoose p l y (headSpec ws rm) cc maxL ret e s m args below meth c s₁ → c.maxLocals = maxL → (∀ x ∈ c.exceptionTable.toList, False) → Pc args s →
      W p l e (headSpec ws rm).room s m args below meth c s.heap [] 0 0 (vx_MQ below Qc XC args s mc ms free) (entryFrame m args maxL)) : vx_Met l y ws rm Pc Qc XC mc ms free := by
  refine MetFree.of_bodyS (code := cc) (maxLocals := maxL) (ret := ret) hy ?_ ?_
  · intro args s m h hn
    obtain ⟨meth, c, h1, h2, h3, h4, h5, h6, -, -⟩ := Cond.code_spec hn (atoms_spec (ws := ws) h _ (by rw [hw]; exact List.mem_cons_self))
    exact ⟨meth, c, h1, h2, h3, h4, h5, h6⟩
  · intro p e s m args below meth c s₁ B hml hP _
    have hh0 : s₁.heap = s.heap := by rw [B.state]; rfl
    have ht : ∀ x ∈ c.exceptionTable.toList, False := by
      obtain ⟨meth9, c9, h1, h2, -, -, -, -, h7, -⟩ := Cond.code_spec B.named (atoms_spec (ws := ws) B.pre _ (by rw [hw]; exact List.mem_cons_self))
      cases Option.some.inj (h1.symm.trans B.method)
      cases Option.some.inj (h2.symm.trans (Stand.of_body B).code)
      intro x hx
      rw [Array.isEmpty_iff.mp h7] at hx
      cases hx
    obtain ⟨t, a1, o, b1, b2, b3⟩ := body p e s m args below meth c s₁ B hml ht hP s₁ hh0 (Stand.of_body B)
    exact ⟨t, o, a1, b1, b2, b3⟩
/-- the table of a body with handlers -/
theorem vx_table {p : Program} {x y : MethodName} {S : Spec} {cc bytes : ByteArray} {maxL maxL' : Nat} {ret ret' : Option FieldType} {e : Env} {s s₁ : State} {m : MethodId} {args : Array Value} {below : List Frame} {meth : Method} {c : Code} {hh : List (Nat × Nat × Nat × Nat)}
    (B : BodyLoose p l y S cc maxL ret e s m args below meth c s₁) (h : (Cond.codeWith y bytes maxL' ret' hh).before args s = true) : c.exceptionTable.toList = tableOf hh := by
  obtain ⟨m9, meth9, c9, hn9, h1, h2, -, -, h6, -⟩ := Cond.codeWith_spec h
  cases Option.some.inj (hn9.symm.trans B.named)
  cases Option.some.inj (h1.symm.trans B.method)
  cases Option.some.inj (h2.symm.trans (Stand.of_body B).code)
  rw [← h6, table_eq]
end Bodies
end VXA
/-! ===== END ===== -/
/-! ===== BEGIN a static call of a method with an exception table ===== -/
section VXS
variable {p : Program} {l : Launch} {e : Env} {R : Room} {s : State} {m : MethodId} {args : Array Value} {below : List Frame} {meth : Method} {c : Code} {T : State} {H : Heap} {locs : List Loc} {cells slots : Nat}
abbrev vx_CSW (R : Room) (s : State) (args : Array Value) (own : String) (index : Nat) (y : MethodName) (bytes : ByteArray) (maxL : Nat) (ret : Option FieldType) (hh : List (Nat × Nat × Nat × Nat)) (ws : List Cond) (rm : Room) (mc ms n : Nat) : Prop :=
  (rm.cells = mc ∧ rm.slots = ms ∧ rm.frames + 1 ≤ R.frames ∧ 8 + (maxL + 11) + rm.locals ≤ R.locals ∧ (∀ w ∈ ws, ∀ (a' : Array Value) (U : State), s.WarmedH U.vm → w.before a' U = true) ∧ Cond.codeWith y bytes maxL ret hh ∈ ws) ∧
  (Cond.codeWith y bytes maxL ret hh).before args s = true ∧ (Cond.initialized y.cls).before args s = true ∧ (y.cls ≠ "java/lang/invoke/MethodHandle" ∧ y.cls ≠ "java/lang/invoke/VarHandle") ∧
  (∀ sig, parseMethodDescriptor y.desc = some sig → n = sig.parameters.length) ∧ (Cond.methodLink own index y).before args s = true ∧ (Cond.static y).before args s = true
theorem vx_cwSW {own : String} {index maxL mc ms : Nat} {y : MethodName} {bytes : ByteArray} {ret : Option FieldType} {hh : List (Nat × Nat × Nat × Nat)} {Ts ws ws' : List Cond} {rm : Room} (n : Nat) (ht : ∀ w ∈ Ts, w.before args s = true) (hT : GoodIn Ts (va_wsS own index y ws)) (hw : ws = Cond.codeWith y bytes maxL ret hh :: ws') (hrc : rm.cells = mc) (hrs : rm.slots = ms)
    (hd : y.cls ≠ "java/lang/invoke/MethodHandle" ∧ y.cls ≠ "java/lang/invoke/VarHandle" ∧ (parseMethodDescriptor y.desc).map (fun d => d.parameters.length) = some n) (hR : rm.frames + 1 ≤ R.frames ∧ 8 + (maxL + 11) + rm.locals ≤ R.locals) :
    vx_CSW R s args own index y bytes maxL ret hh ws rm mc ms n := by
  have ok : ∀ w ∈ va_wsS own index y ws, w.before args s = true := fun w h => ht w (hT w h).1
  have hG : GoodIn Ts ws := fun w h => hT w (by unfold va_wsS; exact List.mem_append_right _ h)
  have hc : Cond.codeWith y bytes maxL ret hh ∈ ws := by rw [hw]; exact List.mem_cons_self
  refine ⟨⟨hrc, hrs, hR.1, hR.2, pay_in ht hG, hc⟩, ht _ (hG _ hc).1, ok _ (by simp [va_wsS]), ⟨hd.1, hd.2.1⟩, fun sig h => ?_, ok _ (by simp [va_wsS]), ok _ (by simp [va_wsS])⟩
  have h2 := hd.2.2
  rw [h] at h2
  exact (Option.some.inj h2).symm
theorem vx_callSW (X : Stand p l e R s m args below meth c T locs cells slots) (hexec : p.tables.exec = Jvm.exec) {own : String} {index : Nat} {y : MethodName} {bytes : ByteArray} {maxL : Nat} {ret : Option FieldType} {hh : List (Nat × Nat × Nat × Nat)}
    (hown : s.vm.findClass own = some m.cls) (hlink : (Cond.methodLink own index y).before args s = true) (hstat : (Cond.static y).before args s = true) (hinit : (Cond.initialized y.cls).before args s = true)
    (hcode : (Cond.codeWith y bytes maxL ret hh).before args s = true) (hy : y.cls ≠ "java/lang/invoke/MethodHandle" ∧ y.cls ≠ "java/lang/invoke/VarHandle")
    {W9 : Nat} {Pre : Pt → Array Value → Prop} {Post : Pt → Array Value → Option Value → Pt → Prop} (hK : Back l R p e below s args y 3 W9 Pre Post)
    {g : JFrame} (hg : g.method = m) (hsize : g.locals.size = c.maxLocals) {argsL rest : List Value} (hlen : ∀ sig, parseMethodDescriptor y.desc = some sig → argsL.length = sig.parameters.length)
    (hstack : g.stack = argsL.reverse ++ rest) (hW : 2 * g.monitorRoom + (rest.map fun v => v.category).sum ≤ W9) (hdg : decode c.code g.pc = .ok (.invokestatic index, 3))
    (hpre : ∀ vm₁, s.WarmedH vm₁ → Pre ⟨T.setVm vm₁, locs, cells, slots⟩ argsL.toArray) :
    ∃ (v : Option Value) (vm₁ : Vm) (B : Pt), s.WarmedH vm₁ ∧ Stand p l e R s m args below meth c B.U B.locs B.cells B.slots ∧ Post ⟨T.setVm vm₁, locs, cells, slots⟩ argsL.toArray v B ∧
      ∀ target, Steps p.tables e below (B.U.setTop { g with pc := g.pc + 3, stack := v.toList ++ rest }) target → Steps p.tables e below (T.setTop g) target := by
  obtain ⟨mk, methM, cM, hnamed, hmethM, -, -, -, -, -, -, hsigM⟩ := Cond.codeWith_spec hcode
  have hstatic : methM.isStatic = true := Cond.static_spec hnamed hmethM hstat
  obtain ⟨kP, hkP, -⟩ := className_of_methodNamed hnamed
  have hinitP : kP.init = .initialized := Cond.initialized_spec (findClass_of_methodNamed hnamed) hkP hinit
  obtain ⟨vm₁, X₁, hstep₁⟩ := X.invokestatic hexec hown hlink hnamed hmethM hstatic hkP hinitP hy (g := g) hg (argsL := argsL) (rest := rest) (hlen _ hsigM) hstack hdg
  obtain ⟨v, B, X', hpost, hsteps⟩ := hK m meth c ⟨T.setVm vm₁, locs, cells, slots⟩ { g with stack := rest } (.invokestatic index) mk argsL.toArray X₁ hg hsize hdg hW (X₁.named hnamed) (hpre vm₁ X₁.warmed)
  exact ⟨v, vm₁, B, X₁.warmed, X', hpost, fun target h => hstep₁ _ fun acts => by rw [doInvoke_state]; exact hsteps.trans h⟩
theorem vx_runSW {y : MethodName} {bytes cc : ByteArray} {maxL nL mc ms n index : Nat} {ret : Option FieldType} {hh : List (Nat × Nat × Nat × Nat)} {ws : List Cond} {rm : Room} {Pc : Array Value → State → Prop} {Qc : Array Value → State → Outcome → State → Prop} {free : Addr → Prop} {Ts : List Cond} {own : String} {As rest : List Value} {g : JFrame}
    (S : CallFix p m c cc nL s args Ts own) (hM : Met l y ws rm Pc Qc mc ms free) (cw : vx_CSW R s args own index y bytes maxL ret hh ws rm mc ms n) (hp : PreS s H Pc As)
    (hg : g.method = m) (hn : As.length = n) (hsize : g.locals.size = nL) (hstack : g.stack = As.reverse ++ rest) (hW : 2 * g.monitorRoom + (rest.map fun v => v.category).sum ≤ 8) (hdg : decode cc g.pc = .ok (.invokestatic index, 3)) (hf : cells + mc ≤ R.cells ∧ slots + ms ≤ R.slots) :
    va_Run p l e R s m args below meth c H locs cells slots mc ms g rest (Qc As.toArray) (free) := by
  obtain ⟨⟨hrc, hrs, hfr, hlo, hws, hcw⟩, hcode, hini, hy, hlen, hl, hstt⟩ := cw
  have hK : Back l R p e below s args y 3 8 (PreOf R mc ms Pc) (PostOf Qc mc ms free) := va_backW (hh := hh) (bytes := bytes) (maxL := maxL) (ret := ret) hM hp.1 hrc hrs hfr hlo hws hcw (fun a' U hW => word_at hW (Or.inl (by first | rfl | simp [Cond.onTables, Cond.keeps, Cond.steady])) hini)
  obtain ⟨hx, hb, hml, ho, -⟩ := S
  intro T hT X
  obtain ⟨v, vm₁, ⟨U', l2, c2, s2⟩, hW₁, X', ⟨g', mk, t, L, e1, e2, hq, h1, hL, h2, h3⟩, st⟩ := vx_callSW X hx (hh := hh) (bytes := bytes) (maxL := maxL) (ret := ret) ho hl hstt hini hcode hy hK hg (hsize.trans hml.symm) (argsL := As) (rest := rest) (fun sig h => hn.trans (hlen sig h)) hstack hW (by rw [hb]; exact hdg)
    (fun vm₁ hW₁ => ⟨hf.1, hf.2, hp.2 (T.setVm vm₁) hT hW₁⟩)
  dsimp only [Pt.U, Pt.locs, Pt.cells, Pt.slots] at X' e1 e2 h1 h2 h3 st
  subst h1; subst h2; subst h3
  exact ⟨v, (T.setVm vm₁).calling g' mk As.toArray, t, U', L, hT, X', hL, e1, e2, hq, st⟩
/-- not caught here, past rows that name other classes: it goes on to the caller -/
theorem vx_outP {p : Program} {l : Launch} {e : Env} {R : Room} {s : State} {m : MethodId} {args : Array Value} {below : List Frame} {meth : Method} {c : Code} {H : Heap} {locs : List Loc} {cells slots : Nat} {free : Addr → Prop} {ls : Array Slot} {rest : List Value} {Qc : Array Value → State → Outcome → State → Prop} {XC : String → State → State → Prop}
    {pc : Nat} {own E : String} {ce : Cell} {q : Addr} {mc ms : Nat} (hown : s.vm.findClass own = some m.cls) (hlocks : meth.locks = false)
    (hpass : ∀ z ∈ c.exceptionTable.toList, covers z pc = false ∨ (z.catchType ≠ 0 ∧ ∃ nm : String, (Cond.classLink own z.catchType nm).before args s = true ∧ va_Nc E nm s)) (hcell : H[q]? = some ce) (hv : ce.vm = .none) (hcl : s.vm.findClass E = some ce.cls)
    (hx : ∀ t : State, t.heap = H → s.vm.Alike t.vm → XC E s t) (hf : ∀ z ∈ locs, free z.base) (hc : cells ≤ mc) (hs : slots ≤ ms) :
    vx_W p l e R s m args below meth c H locs cells slots (vx_MQ below Qc XC args s mc ms free) (F0 m pc ls rest) q := by
  intro T hT X
  have hpl : e.platform.magicAccessors = ({} : Platform).magicAccessors := by rw [X.admits.platform]
  obtain ⟨vm', hW', X', st⟩ := X.outThrough hlocks q (g := F0 m pc ls rest) rfl rfl rfl (cell := ce) (by rw [hT]; exact hcell) (by rw [hv]; rfl)
    (by obtain ⟨k9, h9, -⟩ := Vm.findClass_spec hcl; exact ⟨k9, h9⟩) (fun z hz => by
      rcases hpass z hz with h | ⟨hz0, nm, hl1, hn1⟩
      · exact Or.inl h
      · obtain ⟨c6, hc6, hcl6⟩ := Cond.classLink_spec hown hl1 e.platform hpl
        obtain ⟨a8, b8, h1, h2, h3⟩ := hn1
        cases Option.some.inj (h1.symm.trans hcl)
        cases Option.some.inj (h2.symm.trans hc6)
        exact Or.inr ⟨hz0, _, hcl6, h3⟩)
  obtain ⟨g₀, hfr⟩ := X'.frames_eq
  have hcell9 : ((T.setVm vm').setFrames (.throwing q :: below)).heap[q]? = some ce := by
    show T.heap[q]? = some ce
    rw [hT]; exact hcell
  have hend : Ended ((T.setVm vm').setFrames (.throwing q :: below)) below (.threw q) := State.frames_setFrames _ (State.cur_lt_of_frames hfr)
  refine ⟨(T.setVm vm').setFrames (.throwing q :: below), ?_, .threw q, X'.here.running, hend, Or.inr ⟨q, rfl, E, ce, locs, hx _ hT (X'.ends _).1.alike, hcell9, hv, hcl, (X'.ends _).1, (X'.ends _).2.mono hc hs, hf⟩⟩
  rw [X.pushThrowing_eq]
  exact st
/-- a thing of a world lies in the heap -/
theorem vx_lt {D : va_G} {cl : List vw_C} {ws : va_W} {H1 : Heap} (h : va_P D cl ws H1) {k : Nat} {q : Nat × va_E} (hk : ws[k]? = some q) : q.1 < H1.size := (h k q hk).lt
end VXS
/-! ===== END ===== -/
/-! ===== BEGIN methods with a table of their own: called by a name, returning or throwing ===== -/
section VXH
/-! vx_backW, vx_callVX, vx_callSX, vx_callVW, vx_runVW, vx_runVX, vx_runSX, vx_ofWH follow the same proofs as their sisters above (Free/Laws.lean, Shelf42/LK1.lean); vx_outP calls Shelf42/NT130.lean (outThrough). -/
section
variable {l : Launch} {R : Room} {p : Program} {e : Env} {below : List Frame} {s : State} {sargs : Array Value} {y : MethodName} {len W9 : Nat}
theorem vx_backW {ws : List Cond} {rm : Room} {Pc : Array Value → State → Prop} {Qc : Array Value → State → Outcome → State → Prop} {XC : String → State → State → Prop} {mc ms : Nat} {free : Addr → Prop} {bytes : ByteArray} {maxL : Nat} {ret : Option FieldType} {hh : List (Nat × Nat × Nat × Nat)}
    (hM : vx_Met l y ws rm Pc Qc XC mc ms free) (hblind : FrameBlind Pc) (hrc : rm.cells = mc) (hrs : rm.slots = ms)
    (hframes : rm.frames + 1 ≤ R.frames) (hlocals : W9 + (maxL + 11) + rm.locals ≤ R.locals)
    (hws : ∀ w ∈ ws, ∀ a' U, s.WarmedH U.vm → w.before a' U = true) (hcode : Cond.codeWith y bytes maxL ret hh ∈ ws) (hinit : ∀ a' U, s.WarmedH U.vm → (Cond.initialized y.cls).before a' U = true) :
    vx_Back l R p e below s sargs y len W9 (PreOf R mc ms Pc) (PostOf Qc mc ms free) (vx_Post XC mc ms free) := by
  intro m meth c A g ig mk a X hg hsize hdg hW hn hp
  have h1 : (headSpec ws rm).pre.before a A.U = true := atoms_intro fun w hw => hws w hw _ _ X.warmed
  have h2 : (Cond.codeWith y bytes maxL ret hh).before a A.U = true := hws _ hcode _ _ X.warmed
  have h3 : (Cond.initialized y.cls).before a A.U = true := hinit _ _ X.warmed
  have h4 : A.cells + (headSpec ws rm).room.cells ≤ R.cells := by rw [show (headSpec ws rm).room.cells = mc from hrc]; exact hp.1
  have h5 : A.slots + (headSpec ws rm).room.slots ≤ R.slots := by rw [show (headSpec ws rm).room.slots = ms from hrs]; exact hp.2.1
  have hPc : Pc a (A.U.calling g mk a) := hblind _ _ _ _ hp.2.2
  obtain ⟨U, Ls, c0, s0⟩ := A
  dsimp only [Pt.U, Pt.locs, Pt.cells, Pt.slots] at h1 h2 h3 h4 h5 X hn hPc ⊢
  obtain ⟨m9, methY, cY, hn9, hmY, hcY, -, hlY, -⟩ := Cond.codeWith_spec h2
  cases Option.some.inj (hn9.symm.trans hn)
  obtain ⟨kY, hkY, -⟩ := className_of_methodNamed hn
  have hinitY : kY.init = .initialized := Cond.initialized_spec (findClass_of_methodNamed hn) hkY h3
  have h : At U g.method c below := by rw [hg]; exact X.here
  have hlocals9 : W9 + (maxL + 11) + (headSpec ws rm).room.locals ≤ R.locals := hlocals
  have happ : (headSpec ws rm).appliesLoose y e.platform (U.calling g mk a) = true :=
    Spec.appliesLoose_calling (g := g) h hdg hn hkY hinitY
      (X.room_calling (g := g) (R' := (headSpec ws rm).room) hsize hmY hcY hframes (by rw [hlY]; omega) h4 h5) h1
  obtain ⟨mid, hmid⟩ := h.above
  have hfr : (U.setTop g).frames = (.java g :: mid) ++ below := by rw [State.frames_setTop' g h.top, hmid]; rfl
  obtain ⟨o, s₂, hsteps, -, hend, hq⟩ := Steps.callFree hM p X.admits X.cas X.clock (acts := []) hfr happ hPc trivial
  have hq' : vx_Q Qc XC mc ms free a (U.calling g mk a) o s₂ := hq
  rw [State.frames_setTop' g h.top] at hend
  obtain ⟨g₀, hg0⟩ := Option.isSome_iff_exists.mp h.top
  obtain ⟨r, hr⟩ := State.topJava?_eq_some.mp hg0
  have hr' : (({ U with heap := s₂.heap, slotsUsed := s₂.slotsUsed } : State).setVm s₂.vm).frames = .java g₀ :: r := hr
  rcases hq' with ⟨hqc, L, hfe, hL⟩ | ⟨q, rfl, E, ce, L, hx, hce, hcv, hcl, hW₂, hsm, hL⟩
  · obtain ⟨⟨v, rfl⟩, hW₂, e2, q2, q3, q4, q5, q6⟩ := id hfe
    have e3 : s₂ = ({ (U.calling g mk a).setFrames s₂.frames with heap := s₂.heap, slotsUsed := s₂.slotsUsed } : State).setVm s₂.vm := by
      have : s₂ = ({ s₂ with vm := (U.calling g mk a).vm } : State).setVm s₂.vm := rfl
      rw [e2] at this
      exact this
    obtain ⟨c₂, i₂, len₂, hc₂, hd₂, hf₂⟩ := hend
    have hW' : U.WarmedH s₂.vm := hW₂
    have hcc : c₂ = c := by
      have h1 : s₂.code? g.method = U.code? g.method := by
        rw [State.code?_eq, State.code?_eq, hW'.alike.method?]
      exact Option.some.inj (hc₂.symm.trans (h1.trans h.code))
    subst hcc
    have hlen : len₂ = len := by rw [hdg] at hd₂; cases hd₂; rfl
    subst hlen
    have hs₂ : s₂ = (({ U with heap := s₂.heap, slotsUsed := s₂.slotsUsed } : State).setVm s₂.vm).setTop { g with pc := g.pc + len₂, stack := v.toList ++ g.stack } := by
      refine e3.trans ?_
      rw [hf₂, State.calling_eq h.top, State.setFrames_setFrames, State.setTop_of_frames _ hr', hr]
      rfl
    have hsame : U.sameButNew ({ U with heap := s₂.heap, slotsUsed := s₂.slotsUsed } : State) L mc ms := by
      refine ⟨?_, q2, q3, q4, q5, q6⟩
      obtain ⟨t, ht, -⟩ := State.frames_cons hr
      show ({ U with heap := s₂.heap, slotsUsed := s₂.slotsUsed } : State) = { U.setFrames U.frames with heap := s₂.heap, slotsUsed := s₂.slotsUsed }
      rw [State.setFrames_self ht]
    subst hg
    refine Or.inl ⟨v, ⟨(({ U with heap := s₂.heap, slotsUsed := s₂.slotsUsed } : State).setVm s₂.vm), Ls ++ L, c0 + mc, s0 + ms⟩,
      ⟨X.admits, X.cas, X.clock, X.frames, X.room, X.hears, X.method, X.code, (X.here.setHeapUsed s₂.heap s₂.slotsUsed).setVm hW'.alike, X.tail, State.WarmedH.trans X.warmed hW', X.limits, X.bytes, X.same.trans (hsame.setVm s.vm)⟩,
      ⟨g, mk, s₂, L, rfl, rfl, hqc, rfl, hL, rfl, rfl⟩, ?_⟩
    show Steps p.tables e below _ ((({ U with heap := s₂.heap, slotsUsed := s₂.slotsUsed } : State).setVm s₂.vm).setTop { g with pc := g.pc + len₂, stack := v.toList ++ g.stack })
    rw [← hs₂]
    exact hsteps
  · obtain ⟨e2, q2, q3, q4, q5, q6⟩ := id hsm
    have e3 : s₂ = ({ (U.calling g mk a).setFrames s₂.frames with heap := s₂.heap, slotsUsed := s₂.slotsUsed } : State).setVm s₂.vm := by
      have : s₂ = ({ s₂ with vm := (U.calling g mk a).vm } : State).setVm s₂.vm := rfl
      rw [e2] at this
      exact this
    have hf₂ : s₂.frames = .throwing q :: .java g :: U.frames.tail := hend
    have hW' : U.WarmedH s₂.vm := hW₂
    have hs₂ : s₂ = ((({ U with heap := s₂.heap, slotsUsed := s₂.slotsUsed } : State).setVm s₂.vm).setTop g).pushFrame (.throwing q) := by
      refine e3.trans ?_
      rw [hf₂, State.calling_eq h.top, State.setFrames_setFrames, State.pushFrame, State.frames_setTop _ hr', State.setTop_of_frames _ hr', State.setFrames_setFrames, hr]
      rfl
    have hsame : U.sameButNew ({ U with heap := s₂.heap, slotsUsed := s₂.slotsUsed } : State) L mc ms := by
      refine ⟨?_, q2, q3, q4, q5, q6⟩
      obtain ⟨t, ht, -⟩ := State.frames_cons hr
      show ({ U with heap := s₂.heap, slotsUsed := s₂.slotsUsed } : State) = { U.setFrames U.frames with heap := s₂.heap, slotsUsed := s₂.slotsUsed }
      rw [State.setFrames_self ht]
    subst hg
    refine Or.inr ⟨q, ⟨(({ U with heap := s₂.heap, slotsUsed := s₂.slotsUsed } : State).setVm s₂.vm), Ls ++ L, c0 + mc, s0 + ms⟩,
      ⟨X.admits, X.cas, X.clock, X.frames, X.room, X.hears, X.method, X.code, (X.here.setHeapUsed s₂.heap s₂.slotsUsed).setVm hW'.alike, X.tail, State.WarmedH.trans X.warmed hW', X.limits, X.bytes, X.same.trans (hsame.setVm s.vm)⟩,
      ⟨g, mk, s₂, L, E, ce, rfl, rfl, hx, hce, hcv, hcl, rfl, hL, rfl, rfl⟩, ?_⟩
    show Steps p.tables e below _ (((({ U with heap := s₂.heap, slotsUsed := s₂.slotsUsed } : State).setVm s₂.vm).setTop g).pushFrame (.throwing q))
    rw [← hs₂]
    exact hsteps
end
variable {p : Program} {l : Launch} {e : Env} {R : Room} {s : State} {m : MethodId} {args : Array Value} {below : List Frame} {meth : Method} {c : Code} {T : State} {H : Heap} {locs : List Loc} {cells slots : Nat}
theorem vx_callVX (X : Stand p l e R s m args below meth c T locs cells slots) (hexec : p.tables.exec = Jvm.exec) {own C : String} {index : Nat} {y : MethodName} {bytes : ByteArray} {maxL : Nat} {ret : Option FieldType} {hh : List (Nat × Nat × Nat × Nat)}
    (hown : s.vm.findClass own = some m.cls) (hlink : (Cond.methodLink own index y).before args s = true) (hinst : (Cond.instanceMethod y).before args s = true) (hsel : (Cond.selects C y y).before args s = true)
    (hcode : (Cond.codeWith y bytes maxL ret hh).before args s = true) (hy : y.cls ≠ "java/lang/invoke/MethodHandle" ∧ y.cls ≠ "java/lang/invoke/VarHandle")
    {W9 : Nat} {Pre : Pt → Array Value → Prop} {Post : Pt → Array Value → Option Value → Pt → Prop} {PostX : Pt → Array Value → Addr → Pt → Prop} (hK : vx_Back l R p e below s args y 3 W9 Pre Post PostX)
    {b : Addr} {cellB : Cell} (hcell : T.heap[b]? = some cellB) (hobj : cellB.vm.isStatics = false) (hcls : s.vm.findClass C = some cellB.cls)
    {g : JFrame} (hg : g.method = m) (hsize : g.locals.size = c.maxLocals) {argsL rest : List Value} (hlen : ∀ sig, parseMethodDescriptor y.desc = some sig → argsL.length = sig.parameters.length)
    (hstack : g.stack = argsL.reverse ++ .ref b :: rest) (hW : 2 * g.monitorRoom + (rest.map fun v => v.category).sum ≤ W9) (hdg : decode c.code g.pc = .ok (.invokevirtual index, 3))
    (hpre : ∀ vm₁, s.WarmedH vm₁ → Pre ⟨T.setVm vm₁, locs, cells, slots⟩ (Value.ref b :: argsL).toArray) :
    (∃ (v : Option Value) (vm₁ : Vm) (B : Pt), s.WarmedH vm₁ ∧ Stand p l e R s m args below meth c B.U B.locs B.cells B.slots ∧ Post ⟨T.setVm vm₁, locs, cells, slots⟩ (Value.ref b :: argsL).toArray v B ∧
      ∀ target, Steps p.tables e below (B.U.setTop { g with pc := g.pc + 3, stack := v.toList ++ rest }) target → Steps p.tables e below (T.setTop g) target) ∨
    (∃ (q : Addr) (vm₁ : Vm) (B : Pt), s.WarmedH vm₁ ∧ Stand p l e R s m args below meth c B.U B.locs B.cells B.slots ∧ PostX ⟨T.setVm vm₁, locs, cells, slots⟩ (Value.ref b :: argsL).toArray q B ∧
      Steps p.tables e below (T.setTop g) ((B.U.setTop { g with stack := rest }).pushFrame (.throwing q))) := by
  obtain ⟨mk, methM, hnamed, hmethM, hstM, habM⟩ := Cond.instanceMethod_spec hinst
  obtain ⟨m8, methM', cM, hn8, hmethM', -, -, -, -, -, -, hsigM⟩ := Cond.codeWith_spec hcode
  cases Option.some.inj (hn8.symm.trans hnamed)
  cases hmethM.symm.trans hmethM'
  obtain ⟨c2, r2, m2, q1, q2, q3, q4, kP, hkP, hkPi⟩ := Cond.selects_spec hsel
  cases hcls.symm.trans q1
  cases (State.methodFound?_of_named hnamed hy).symm.trans q2
  cases hnamed.symm.trans q3
  have hselP : selectMethod e.platform s.vm cellB.cls mk = .method mk := by rw [Launch.admits_selectMethod X.admits]; exact q4
  obtain ⟨vm₁, X₁, hstep₁⟩ := X.invokevirtual hexec hown hlink hnamed hmethM hstM hkP hkPi hy (a := b) (cell := cellB) hcell
    (fun z h => by rw [h] at hobj; cases hobj) hselP hmethM habM hkP hkPi (g := g) hg (argsL := argsL) (rest := rest) (hlen _ hsigM) hstack hdg
  rcases hK m meth c ⟨T.setVm vm₁, locs, cells, slots⟩ { g with stack := rest } (.invokevirtual index) mk (Value.ref b :: argsL).toArray X₁ hg hsize hdg hW (X₁.named hnamed) (hpre vm₁ X₁.warmed) with ⟨v, B, X', hpost, hsteps⟩ | ⟨q, B, X', hpost, hsteps⟩
  · exact Or.inl ⟨v, vm₁, B, X₁.warmed, X', hpost, fun target h => hstep₁ _ fun acts => by rw [doInvoke_state]; exact hsteps.trans h⟩
  · exact Or.inr ⟨q, vm₁, B, X₁.warmed, X', hpost, hstep₁ _ fun acts => by rw [doInvoke_state]; exact hsteps⟩
theorem vx_callSX (X : Stand p l e R s m args below meth c T locs cells slots) (hexec : p.tables.exec = Jvm.exec) {own : String} {index : Nat} {y : MethodName} {bytes : ByteArray} {maxL : Nat} {ret : Option FieldType} {hh : List (Nat × Nat × Nat × Nat)}
    (hown : s.vm.findClass own = some m.cls) (hlink : (Cond.methodLink own index y).before args s = true) (hstat : (Cond.static y).before args s = true) (hinit : (Cond.initialized y.cls).before args s = true)
    (hcode : (Cond.codeWith y bytes maxL ret hh).before args s = true) (hy : y.cls ≠ "java/lang/invoke/MethodHandle" ∧ y.cls ≠ "java/lang/invoke/VarHandle")
    {W9 : Nat} {Pre : Pt → Array Value → Prop} {Post : Pt → Array Value → Option Value → Pt → Prop} {PostX : Pt → Array Value → Addr → Pt → Prop} (hK : vx_Back l R p e below s args y 3 W9 Pre Post PostX)
    {g : JFrame} (hg : g.method = m) (hsize : g.locals.size = c.maxLocals) {argsL rest : List Value} (hlen : ∀ sig, parseMethodDescriptor y.desc = some sig → argsL.length = sig.parameters.length)
    (hstack : g.stack = argsL.reverse ++ rest) (hW : 2 * g.monitorRoom + (rest.map fun v => v.category).sum ≤ W9) (hdg : decode c.code g.pc = .ok (.invokestatic index, 3))
    (hpre : ∀ vm₁, s.WarmedH vm₁ → Pre ⟨T.setVm vm₁, locs, cells, slots⟩ argsL.toArray) :
    (∃ (v : Option Value) (vm₁ : Vm) (B : Pt), s.WarmedH vm₁ ∧ Stand p l e R s m args below meth c B.U B.locs B.cells B.slots ∧ Post ⟨T.setVm vm₁, locs, cells, slots⟩ argsL.toArray v B ∧
      ∀ target, Steps p.tables e below (B.U.setTop { g with pc := g.pc + 3, stack := v.toList ++ rest }) target → Steps p.tables e below (T.setTop g) target) ∨
    (∃ (q : Addr) (vm₁ : Vm) (B : Pt), s.WarmedH vm₁ ∧ Stand p l e R s m args below meth c B.U B.locs B.cells B.slots ∧ PostX ⟨T.setVm vm₁, locs, cells, slots⟩ argsL.toArray q B ∧
      Steps p.tables e below (T.setTop g) ((B.U.setTop { g with stack := rest }).pushFrame (.throwing q))) := by
  obtain ⟨mk, methM, cM, hnamed, hmethM, -, -, -, -, -, -, hsigM⟩ := Cond.codeWith_spec hcode
  have hstatic : methM.isStatic = true := Cond.static_spec hnamed hmethM hstat
  obtain ⟨kP, hkP, -⟩ := className_of_methodNamed hnamed
  have hinitP : kP.init = .initialized := Cond.initialized_spec (findClass_of_methodNamed hnamed) hkP hinit
  obtain ⟨vm₁, X₁, hstep₁⟩ := X.invokestatic hexec hown hlink hnamed hmethM hstatic hkP hinitP hy (g := g) hg (argsL := argsL) (rest := rest) (hlen _ hsigM) hstack hdg
  rcases hK m meth c ⟨T.setVm vm₁, locs, cells, slots⟩ { g with stack := rest } (.invokestatic index) mk argsL.toArray X₁ hg hsize hdg hW (X₁.named hnamed) (hpre vm₁ X₁.warmed) with ⟨v, B, X', hpost, hsteps⟩ | ⟨q, B, X', hpost, hsteps⟩
  · exact Or.inl ⟨v, vm₁, B, X₁.warmed, X', hpost, fun target h => hstep₁ _ fun acts => by rw [doInvoke_state]; exact hsteps.trans h⟩
  · exact Or.inr ⟨q, vm₁, B, X₁.warmed, X', hpost, hstep₁ _ fun acts => by rw [doInvoke_state]; exact hsteps⟩
theorem vx_callVW (X : Stand p l e R s m args below meth c T locs cells slots) (hexec : p.tables.exec = Jvm.exec) {own C : String} {index : Nat} {y : MethodName} {bytes : ByteArray} {maxL : Nat} {ret : Option FieldType} {hh : List (Nat × Nat × Nat × Nat)}
    (hown : s.vm.findClass own = some m.cls) (hlink : (Cond.methodLink own index y).before args s = true) (hinst : (Cond.instanceMethod y).before args s = true) (hsel : (Cond.selects C y y).before args s = true)
    (hcode : (Cond.codeWith y bytes maxL ret hh).before args s = true) (hy : y.cls ≠ "java/lang/invoke/MethodHandle" ∧ y.cls ≠ "java/lang/invoke/VarHandle")
    {W9 : Nat} {Pre : Pt → Array Value → Prop} {Post : Pt → Array Value → Option Value → Pt → Prop} (hK : Back l R p e below s args y 3 W9 Pre Post)
    {b : Addr} {cellB : Cell} (hcell : T.heap[b]? = some cellB) (hobj : cellB.vm.isStatics = false) (hcls : s.vm.findClass C = some cellB.cls)
    {g : JFrame} (hg : g.method = m) (hsize : g.locals.size = c.maxLocals) {argsL rest : List Value} (hlen : ∀ sig, parseMethodDescriptor y.desc = some sig → argsL.length = sig.parameters.length)
    (hstack : g.stack = argsL.reverse ++ .ref b :: rest) (hW : 2 * g.monitorRoom + (rest.map fun v => v.category).sum ≤ W9) (hdg : decode c.code g.pc = .ok (.invokevirtual index, 3))
    (hpre : ∀ vm₁, s.WarmedH vm₁ → Pre ⟨T.setVm vm₁, locs, cells, slots⟩ (Value.ref b :: argsL).toArray) :
    ∃ (v : Option Value) (vm₁ : Vm) (B : Pt), s.WarmedH vm₁ ∧ Stand p l e R s m args below meth c B.U B.locs B.cells B.slots ∧ Post ⟨T.setVm vm₁, locs, cells, slots⟩ (Value.ref b :: argsL).toArray v B ∧
      ∀ target, Steps p.tables e below (B.U.setTop { g with pc := g.pc + 3, stack := v.toList ++ rest }) target → Steps p.tables e below (T.setTop g) target := by
  obtain ⟨mk, methM, hnamed, hmethM, hstM, habM⟩ := Cond.instanceMethod_spec hinst
  obtain ⟨m8, methM', cM, hn8, hmethM', -, -, -, -, -, -, hsigM⟩ := Cond.codeWith_spec hcode
  cases Option.some.inj (hn8.symm.trans hnamed)
  cases hmethM.symm.trans hmethM'
  obtain ⟨c2, r2, m2, q1, q2, q3, q4, kP, hkP, hkPi⟩ := Cond.selects_spec hsel
  cases hcls.symm.trans q1
  cases (State.methodFound?_of_named hnamed hy).symm.trans q2
  cases hnamed.symm.trans q3
  have hselP : selectMethod e.platform s.vm cellB.cls mk = .method mk := by rw [Launch.admits_selectMethod X.admits]; exact q4
  obtain ⟨vm₁, X₁, hstep₁⟩ := X.invokevirtual hexec hown hlink hnamed hmethM hstM hkP hkPi hy (a := b) (cell := cellB) hcell
    (fun z h => by rw [h] at hobj; cases hobj) hselP hmethM habM hkP hkPi (g := g) hg (argsL := argsL) (rest := rest) (hlen _ hsigM) hstack hdg
  obtain ⟨v, B, X', hpost, hsteps⟩ := hK m meth c ⟨T.setVm vm₁, locs, cells, slots⟩ { g with stack := rest } (.invokevirtual index) mk (Value.ref b :: argsL).toArray X₁ hg hsize hdg hW (X₁.named hnamed) (hpre vm₁ X₁.warmed)
  exact ⟨v, vm₁, B, X₁.warmed, X', hpost, fun target h => hstep₁ _ fun acts => by rw [doInvoke_state]; exact hsteps.trans h⟩
abbrev vx_CVW (R : Room) (s : State) (args : Array Value) (own C : String) (index : Nat) (y : MethodName) (bytes : ByteArray) (maxL : Nat) (ret : Option FieldType) (hh : List (Nat × Nat × Nat × Nat)) (ws : List Cond) (rm : Room) (mc ms n : Nat) : Prop :=
  (rm.cells = mc ∧ rm.slots = ms ∧ rm.frames + 1 ≤ R.frames ∧ 8 + (maxL + 11) + rm.locals ≤ R.locals ∧ (∀ w ∈ ws, ∀ (a' : Array Value) (U : State), s.WarmedH U.vm → w.before a' U = true) ∧ Cond.codeWith y bytes maxL ret hh ∈ ws) ∧
  (Cond.codeWith y bytes maxL ret hh).before args s = true ∧ (Cond.initialized y.cls).before args s = true ∧ (y.cls ≠ "java/lang/invoke/MethodHandle" ∧ y.cls ≠ "java/lang/invoke/VarHandle") ∧
  (∀ sig, parseMethodDescriptor y.desc = some sig → n = sig.parameters.length) ∧ (Cond.methodLink own index y).before args s = true ∧ (Cond.instanceMethod y).before args s = true ∧ (Cond.selects C y y).before args s = true
theorem vx_cwVW {own C : String} {index maxL mc ms : Nat} {y : MethodName} {bytes : ByteArray} {ret : Option FieldType} {hh : List (Nat × Nat × Nat × Nat)} {Ts ws ws' : List Cond} {rm : Room} (n : Nat) (ht : ∀ w ∈ Ts, w.before args s = true) (hT : GoodIn Ts (wsV own index C y ws)) (hw : ws = Cond.codeWith y bytes maxL ret hh :: ws') (hrc : rm.cells = mc) (hrs : rm.slots = ms)
    (hd : y.cls = C ∧ y.cls ≠ "java/lang/invoke/MethodHandle" ∧ y.cls ≠ "java/lang/invoke/VarHandle" ∧ (parseMethodDescriptor y.desc).map (fun d => d.parameters.length) = some n) (hR : rm.frames + 1 ≤ R.frames ∧ 8 + (maxL + 11) + rm.locals ≤ R.locals) :
    vx_CVW R s args own C index y bytes maxL ret hh ws rm mc ms n := by
  obtain ⟨hC, hd⟩ := hd
  subst hC
  have ok : ∀ w ∈ wsV own index y.cls y ws, w.before args s = true := fun w h => ht w (hT w h).1
  have hG : GoodIn Ts ws := fun w h => hT w (by unfold wsV; exact List.mem_append_right _ h)
  have hc : Cond.codeWith y bytes maxL ret hh ∈ ws := by rw [hw]; exact List.mem_cons_self
  refine ⟨⟨hrc, hrs, hR.1, hR.2, pay_in ht hG, hc⟩, ht _ (hG _ hc).1, ok _ (by simp [wsV]), ⟨hd.1, hd.2.1⟩, fun sig h => ?_, ok _ (by simp [wsV]), ok _ (by simp [wsV]), ok _ (by simp [wsV])⟩
  have h2 := hd.2.2
  rw [h] at h2
  exact (Option.some.inj h2).symm
theorem vx_runVW {y : MethodName} {bytes cc : ByteArray} {maxL nL mc ms n index : Nat} {ret : Option FieldType} {hh : List (Nat × Nat × Nat × Nat)} {ws : List Cond} {rm : Room} {Pc : Array Value → State → Prop} {Qc : Array Value → State → Outcome → State → Prop} {free : Addr → Prop} {Ts : List Cond} {own C : String} {b : Addr} {As rest : List Value} {g : JFrame}
    (S : CallFix p m c cc nL s args Ts own) (hM : Met l y ws rm Pc Qc mc ms free) (cw : vx_CVW R s args own C index y bytes maxL ret hh ws rm mc ms n) (hp : PreV s H C b Pc As)
    (hg : g.method = m) (hn : As.length = n) (hsize : g.locals.size = nL) (hstack : g.stack = As.reverse ++ .ref b :: rest) (hW : 2 * g.monitorRoom + (rest.map fun v => v.category).sum ≤ 8) (hdg : decode cc g.pc = .ok (.invokevirtual index, 3)) (hf : cells + mc ≤ R.cells ∧ slots + ms ≤ R.slots) :
    va_Run p l e R s m args below meth c H locs cells slots mc ms g rest (Qc (Value.ref b :: As).toArray) free := by
  obtain ⟨⟨hrc, hrs, hfr, hlo, hws, hcw⟩, hcode, hini, hy, hlen, hl, hin, hse⟩ := cw
  have hK : Back l R p e below s args y 3 8 (PreOf R mc ms Pc) (PostOf Qc mc ms free) := va_backW (hh := hh) (bytes := bytes) (maxL := maxL) (ret := ret) hM hp.1 hrc hrs hfr hlo hws hcw (fun a' U hW => word_at hW (Or.inl (by first | rfl | simp [Cond.onTables, Cond.keeps, Cond.steady])) hini)
  obtain ⟨hx, hb, hml, ho, -⟩ := S
  obtain ⟨-, ⟨cellB, hcB, hoB, hclB⟩, hPc⟩ := hp
  intro T hT X
  obtain ⟨v, vm₁, ⟨U', l2, c2, s2⟩, hW₁, X', ⟨g', mk, t, L, e1, e2, hq, h1, hL, h2, h3⟩, st⟩ := vx_callVW X hx (C := C) (hh := hh) (bytes := bytes) (maxL := maxL) (ret := ret) ho hl hin hse hcode hy hK (by rw [hT]; exact hcB) hoB hclB hg (hsize.trans hml.symm) (argsL := As) (rest := rest) (fun sig h => hn.trans (hlen sig h)) hstack hW (by rw [hb]; exact hdg)
    (fun vm₁ hW₁ => ⟨hf.1, hf.2, hPc (T.setVm vm₁) hT hW₁⟩)
  dsimp only [Pt.U, Pt.locs, Pt.cells, Pt.slots] at X' e1 e2 h1 h2 h3 st
  subst h1; subst h2; subst h3
  exact ⟨v, (T.setVm vm₁).calling g' mk (Value.ref b :: As).toArray, t, U', L, hT, X', hL, e1, e2, hq, st⟩
section
variable {y : MethodName} {bytes cc : ByteArray} {maxL nL mc ms n index : Nat} {ret : Option FieldType} {ws : List Cond} {rm : Room} {Pc : Array Value → State → Prop} {Qc : Array Value → State → Outcome → State → Prop} {XC : String → State → State → Prop} {free : Addr → Prop} {Ts : List Cond} {own C : String} {b : Addr} {As rest : List Value} {g : JFrame}
theorem vx_runVX {hh : List (Nat × Nat × Nat × Nat)} (S : CallFix p m c cc nL s args Ts own) (hM : vx_Met l y ws rm Pc Qc XC mc ms free) (cw : vx_CVW R s args own C index y bytes maxL ret hh ws rm mc ms n) (hp : PreV s H C b Pc As)
    (hg : g.method = m) (hn : As.length = n) (hsize : g.locals.size = nL) (hstack : g.stack = As.reverse ++ .ref b :: rest) (hW : 2 * g.monitorRoom + (rest.map fun v => v.category).sum ≤ 8) (hdg : decode cc g.pc = .ok (.invokevirtual index, 3)) (hf : cells + mc ≤ R.cells ∧ slots + ms ≤ R.slots) :
    vx_Run p l e R s m args below meth c H locs cells slots mc ms g rest (Qc (Value.ref b :: As).toArray) XC free := by
  obtain ⟨⟨hrc, hrs, hfr, hlo, hws, hcw⟩, hcode, hini, hy, hlen, hl, hin, hse⟩ := cw
  have hK : vx_Back l R p e below s args y 3 8 (PreOf R mc ms Pc) (PostOf Qc mc ms free) (vx_Post XC mc ms free) := vx_backW (hh := hh) (bytes := bytes) (maxL := maxL) (ret := ret) hM hp.1 hrc hrs hfr hlo hws hcw (fun a' U hW => word_at hW (Or.inl (by first | rfl | simp [Cond.onTables, Cond.keeps, Cond.steady])) hini)
  obtain ⟨hx, hb, hml, ho, -⟩ := S
  obtain ⟨-, ⟨cellB, hcB, hoB, hclB⟩, hPc⟩ := hp
  intro T hT X
  rcases vx_callVX X hx (C := C) (hh := hh) (bytes := bytes) (maxL := maxL) (ret := ret) ho hl hin hse hcode hy hK (by rw [hT]; exact hcB) hoB hclB hg (hsize.trans hml.symm) (argsL := As) (rest := rest) (fun sig h => hn.trans (hlen sig h)) hstack hW (by rw [hb]; exact hdg)
    (fun vm₁ hW₁ => ⟨hf.1, hf.2, hPc (T.setVm vm₁) hT hW₁⟩) with ⟨v, vm₁, ⟨U', l2, c2, s2⟩, hW₁, X', ⟨g', mk, t, L, e1, e2, hq, h1, hL, h2, h3⟩, st⟩ | ⟨q, vm₁, ⟨U', l2, c2, s2⟩, hW₁, X', ⟨g', mk, t, L, E, ce, e1, e2, hq, hce, hcv, hcl, h1, hL, h2, h3⟩, st⟩
  · dsimp only [Pt.U, Pt.locs, Pt.cells, Pt.slots] at X' e1 e2 h1 h2 h3 st
    subst h1; subst h2; subst h3
    exact Or.inl ⟨v, (T.setVm vm₁).calling g' mk (Value.ref b :: As).toArray, t, U', L, hT, X', hL, e1, e2, hq, st⟩
  · dsimp only [Pt.U, Pt.locs, Pt.cells, Pt.slots] at X' e1 e2 h1 h2 h3 st hcl
    subst h1; subst h2; subst h3
    exact Or.inr ⟨q, (T.setVm vm₁).calling g' mk (Value.ref b :: As).toArray, t, U', L, E, ce, hT, X', hL, e1, e2, hq, hce, hcv, vx_cls hW₁ hcl, st⟩
theorem vx_runSX {hh : List (Nat × Nat × Nat × Nat)} (S : CallFix p m c cc nL s args Ts own) (hM : vx_Met l y ws rm Pc Qc XC mc ms free) (cw : vx_CSW R s args own index y bytes maxL ret hh ws rm mc ms n) (hp : PreS s H Pc As)
    (hg : g.method = m) (hn : As.length = n) (hsize : g.locals.size = nL) (hstack : g.stack = As.reverse ++ rest) (hW : 2 * g.monitorRoom + (rest.map fun v => v.category).sum ≤ 8) (hdg : decode cc g.pc = .ok (.invokestatic index, 3)) (hf : cells + mc ≤ R.cells ∧ slots + ms ≤ R.slots) :
    vx_Run p l e R s m args below meth c H locs cells slots mc ms g rest (Qc As.toArray) XC free := by
  obtain ⟨⟨hrc, hrs, hfr, hlo, hws, hcw⟩, hcode, hini, hy, hlen, hl, hstt⟩ := cw
  have hK : vx_Back l R p e below s args y 3 8 (PreOf R mc ms Pc) (PostOf Qc mc ms free) (vx_Post XC mc ms free) := vx_backW (hh := hh) (bytes := bytes) (maxL := maxL) (ret := ret) hM hp.1 hrc hrs hfr hlo hws hcw (fun a' U hW => word_at hW (Or.inl (by first | rfl | simp [Cond.onTables, Cond.keeps, Cond.steady])) hini)
  obtain ⟨hx, hb, hml, ho, -⟩ := S
  intro T hT X
  rcases vx_callSX X hx (hh := hh) (bytes := bytes) (maxL := maxL) (ret := ret) ho hl hstt hini hcode hy hK hg (hsize.trans hml.symm) (argsL := As) (rest := rest) (fun sig h => hn.trans (hlen sig h)) hstack hW (by rw [hb]; exact hdg)
    (fun vm₁ hW₁ => ⟨hf.1, hf.2, hp.2 (T.setVm vm₁) hT hW₁⟩) with ⟨v, vm₁, ⟨U', l2, c2, s2⟩, hW₁, X', ⟨g', mk, t, L, e1, e2, hq, h1, hL, h2, h3⟩, st⟩ | ⟨q, vm₁, ⟨U', l2, c2, s2⟩, hW₁, X', ⟨g', mk, t, L, E, ce, e1, e2, hq, hce, hcv, hcl, h1, hL, h2, h3⟩, st⟩
  · dsimp only [Pt.U, Pt.locs, Pt.cells, Pt.slots] at X' e1 e2 h1 h2 h3 st
    subst h1; subst h2; subst h3
    exact Or.inl ⟨v, (T.setVm vm₁).calling g' mk As.toArray, t, U', L, hT, X', hL, e1, e2, hq, st⟩
  · dsimp only [Pt.U, Pt.locs, Pt.cells, Pt.slots] at X' e1 e2 h1 h2 h3 st hcl
    subst h1; subst h2; subst h3
    exact Or.inr ⟨q, (T.setVm vm₁).calling g' mk As.toArray, t, U', L, E, ce, hT, X', hL, e1, e2, hq, hce, hcv, vx_cls hW₁ hcl, st⟩
end
end VXH
theorem vx_ofWH {l : Launch} {y : MethodName} {ws ws' : List Cond} {rm : Room} {Pc : Array Value → State → Prop} {Qc : Array Value → State → Outcome → State → Prop} {XC : String → State → State → Prop} {mc ms : Nat} {free : Addr → Prop} {cc : ByteArray} {maxL : Nat} {ret : Option FieldType} {hh : List (Nat × Nat × Nat × Nat)}
    (hy : plainName y.cls = true) (hw : ws = Cond.codeWith y cc maxL ret hh :: ws')
    (body : ∀ p e s m args below meth c s₁, BodyLoose p l y (headSpec ws rm) cc maxL ret e s m args below meth c s₁ → c.maxLocals = maxL → Pc args s →
      W p l e (headSpec ws rm).room s m args below meth c s.heap [] 0 0 (vx_MQ below Qc XC args s mc ms free) (entryFrame m args maxL)) : vx_Met l y ws rm Pc Qc XC mc ms free := by
  refine MetFree.of_bodyS (code := cc) (maxLocals := maxL) (ret := ret) hy ?_ ?_
  · intro args s m h hn
    obtain ⟨m9, meth, c, hn9, h1, h2, h3, h4, -, h5, h6, -⟩ := Cond.codeWith_spec (atoms_spec (ws := ws) h _ (by rw [hw]; exact List.mem_cons_self))
    cases hn.symm.trans hn9
    exact ⟨meth, c, h1, h2, h3, h4, h5, h6⟩
  · intro p e s m args below meth c s₁ B hml hP _
    have hh0 : s₁.heap = s.heap := by rw [B.state]; rfl
    obtain ⟨t, a1, o, b1, b2, b3⟩ := body p e s m args below meth c s₁ B hml hP s₁ hh0 (Stand.of_body B)
    exact ⟨t, o, a1, b1, b2, b3⟩
/-! ===== END ===== -/
end
section
def RX0 : String := "DrystoneSimnet$Addresses"
def TX0 : u_T := fun k => match k with
  | 0 => ("DrystoneSimnet$Addresses", "given", "[I", true)
  | 1 => ("DrystoneSimnet$Addresses", "lengths", "[I", true)
  | 2 => ("DrystoneSimnet$Addresses", "prefixes", "[I", true)
  | _ => ("DrystoneSimnet$Addresses", "gateways", "[I", true)
def tyX0 : Nat → FieldType := fun k => match k with
  | 0 => .array .int
  | 1 => .array .int
  | 2 => .array .int
  | _ => .array .int
abbrev wsX00 : List Cond := u_ws RX0 TX0 4
theorem nmX0 : ∀ a, a < 4 → ∀ b, b < 4 → a ≠ b → (TX0 a).2.1 ≠ (TX0 b).2.1 := by decide +kernel
theorem tyX0_ok : ∀ k, k < 4 → parseFieldDescriptor (TX0 k).2.2.1 = some (tyX0 k) := by decide +kernel
abbrev cX0_init : ByteArray := prog_2_method_1_code
def yX0_init : MethodName := ⟨RX0, "<init>", "()V"⟩
abbrev cX0_give : ByteArray := prog_2_method_2_code
def yX0_give : MethodName := ⟨RX0, "give", "(III)I"⟩
abbrev cX0_covers : ByteArray := prog_2_method_3_code
def yX0_covers : MethodName := ⟨RX0, "covers", "(II)Z"⟩
abbrev cX0_isOf : ByteArray := prog_2_method_4_code
def yX0_isOf : MethodName := ⟨RX0, "isOf", "(II)Z"⟩
abbrev cX0_lowestAt : ByteArray := prog_2_method_5_code
def yX0_lowestAt : MethodName := ⟨RX0, "lowestAt", "(JI)I"⟩
abbrev cX0_lowestCovering : ByteArray := prog_2_method_6_code
def yX0_lowestCovering : MethodName := ⟨RX0, "lowestCovering", "(II)I"⟩
abbrev cX0_connects : ByteArray := prog_2_method_7_code
def yX0_connects : MethodName := ⟨RX0, "connects", "(II)Z"⟩
abbrev cX0_connectedFor : ByteArray := prog_2_method_8_code
def yX0_connectedFor : MethodName := ⟨RX0, "connectedFo\x72", "(II)I"⟩
def RX1 : String := "DrystoneSimnet$Frame"
def TX1 : u_T := fun k => match k with
  | 0 => ("DrystoneSimnet$Frame", "packet", "I", false)
  | 1 => ("DrystoneSimnet$Frame", "towards", "I", false)
  | 2 => ("DrystoneSimnet$Frame", "tag", "I", false)
  | 3 => ("DrystoneSimnet$Frame", "sende\x72", "I", false)
  | 4 => ("DrystoneSimnet$Frame", "target", "I", false)
  | 5 => ("DrystoneSimnet$Frame", "source", "I", false)
  | 6 => ("DrystoneSimnet$Frame", "dest", "I", false)
  | _ => ("DrystoneSimnet$Frame", "passed", "I", false)
def tyX1 : Nat → FieldType := fun k => match k with
  | 0 => .int
  | 1 => .int
  | 2 => .int
  | 3 => .int
  | 4 => .int
  | 5 => .int
  | 6 => .int
  | _ => .int
abbrev wsX10 : List Cond := u_ws RX1 TX1 8
theorem nmX1 : ∀ a, a < 8 → ∀ b, b < 8 → a ≠ b → (TX1 a).2.1 ≠ (TX1 b).2.1 := by decide +kernel
theorem tyX1_ok : ∀ k, k < 8 → parseFieldDescriptor (TX1 k).2.2.1 = some (tyX1 k) := by decide +kernel
abbrev cX1_init : ByteArray := prog_3_method_1_code
def yX1_init : MethodName := ⟨RX1, "<init>", "()V"⟩
abbrev cX1_goOn : ByteArray := prog_3_method_2_code
def yX1_goOn : MethodName := ⟨RX1, "goOn", "(LDrystoneSimnet$Frame;II)V"⟩
def RX2 : String := "DrystoneSimnet$Notes"
def TX2 : u_T := fun k => match k with
  | 0 => ("DrystoneSimnet$Notes", "headers", "[I", true)
  | 1 => ("DrystoneSimnet$Notes", "ticks", "[I", true)
  | _ => ("DrystoneSimnet$Notes", "written", "I", false)
def tyX2 : Nat → FieldType := fun k => match k with
  | 0 => .array .int
  | 1 => .array .int
  | _ => .int
abbrev wsX20 : List Cond := u_ws RX2 TX2 3
theorem nmX2 : ∀ a, a < 3 → ∀ b, b < 3 → a ≠ b → (TX2 a).2.1 ≠ (TX2 b).2.1 := by decide +kernel
theorem tyX2_ok : ∀ k, k < 3 → parseFieldDescriptor (TX2 k).2.2.1 = some (tyX2 k) := by decide +kernel
abbrev cX2_init : ByteArray := prog_4_method_1_code
def yX2_init : MethodName := ⟨RX2, "<init>", "()V"⟩
abbrev cX2_add : ByteArray := prog_4_method_2_code
def yX2_add : MethodName := ⟨RX2, "add", "(IIIII)V"⟩
abbrev cX2_hasSince : ByteArray := prog_4_method_3_code
def yX2_hasSince : MethodName := ⟨RX2, "hasSince", "(IIIII)Z"⟩
abbrev cX2_header : ByteArray := prog_4_method_4_code
def yX2_header : MethodName := ⟨RX2, "heade\x72", "(IIII)I"⟩
def RX3 : String := "DrystoneSimnet$Pool"
def TX3 : u_T := fun k => match k with
  | 0 => ("DrystoneSimnet$Pool", "from", "I", false)
  | 1 => ("DrystoneSimnet$Pool", "many", "I", false)
  | 2 => ("DrystoneSimnet$Pool", "holders", "[I", true)
  | _ => ("DrystoneSimnet$Pool", "usedAt", "[I", true)
def tyX3 : Nat → FieldType := fun k => match k with
  | 0 => .int
  | 1 => .int
  | 2 => .array .int
  | _ => .array .int
abbrev wsX30 : List Cond := u_ws RX3 TX3 4
theorem nmX3 : ∀ a, a < 4 → ∀ b, b < 4 → a ≠ b → (TX3 a).2.1 ≠ (TX3 b).2.1 := by decide +kernel
theorem tyX3_ok : ∀ k, k < 4 → parseFieldDescriptor (TX3 k).2.2.1 = some (tyX3 k) := by decide +kernel
abbrev cX3_init : ByteArray := prog_5_method_1_code
def yX3_init : MethodName := ⟨RX3, "<init>", "()V"⟩
abbrev cX3_replaceBy : ByteArray := prog_5_method_2_code
def yX3_replaceBy : MethodName := ⟨RX3, "replaceBy", "(II)I"⟩
abbrev cX3_contains : ByteArray := prog_5_method_3_code
def yX3_contains : MethodName := ⟨RX3, "contains", "(I)Z"⟩
abbrev cX3_holderOf : ByteArray := prog_5_method_4_code
def yX3_holderOf : MethodName := ⟨RX3, "holderOf", "(II)I"⟩
abbrev cX3_addressFor : ByteArray := prog_5_method_5_code
def yX3_addressFor : MethodName := ⟨RX3, "addressFo\x72", "(II)I"⟩
abbrev cX3_firstFor : ByteArray := prog_5_method_6_code
def yX3_firstFor : MethodName := ⟨RX3, "firstFo\x72", "(I)I"⟩
abbrev cX3_placeOf : ByteArray := prog_5_method_7_code
def yX3_placeOf : MethodName := ⟨RX3, "placeOf", "(II)I"⟩
abbrev cX3_isFree : ByteArray := prog_5_method_8_code
def yX3_isFree : MethodName := ⟨RX3, "isFree", "(II)Z"⟩
def RX4 : String := "DrystoneSimnet$Proofs"
def TX4 : u_T := fun k => match k with
  | 0 => ("DrystoneSimnet$Proofs", "wiring", "LDrystoneSimnet$Wiring;", true)
  | 1 => ("DrystoneSimnet$Proofs", "sight", "LDrystoneSimnet$Sight;", true)
  | 2 => ("DrystoneSimnet$Proofs", "addresses", "LDrystoneSimnet$Addresses;", true)
  | 3 => ("DrystoneSimnet$Proofs", "routers", "[LDrystoneSimnet$Router;", true)
  | 4 => ("DrystoneSimnet$Proofs", "routing", "LDrystoneSimnet$Routing;", true)
  | 5 => ("DrystoneSimnet$Proofs", "passedRouters", "[I", true)
  | 6 => ("DrystoneSimnet$Proofs", "passed", "I", false)
  | 7 => ("DrystoneSimnet$Proofs", "here", "[J", false)
  | 8 => ("DrystoneSimnet$Proofs", "coming", "[J", false)
  | 9 => ("DrystoneSimnet$Proofs", "hereStates", "[I", false)
  | 10 => ("DrystoneSimnet$Proofs", "comingStates", "[I", false)
  | 11 => ("DrystoneSimnet$Proofs", "hereCount", "I", false)
  | 12 => ("DrystoneSimnet$Proofs", "comingCount", "I", false)
  | 13 => ("DrystoneSimnet$Proofs", "headers", "[J", true)
  | 14 => ("DrystoneSimnet$Proofs", "part", "[J", true)
  | 15 => ("DrystoneSimnet$Proofs", "goal", "I", false)
  | _ => ("DrystoneSimnet$Proofs", "found", "I", false)
def tyX4 : Nat → FieldType := fun k => match k with
  | 0 => .object "DrystoneSimnet$Wiring"
  | 1 => .object "DrystoneSimnet$Sight"
  | 2 => .object "DrystoneSimnet$Addresses"
  | 3 => .array (.object "DrystoneSimnet$Route\x72")
  | 4 => .object "DrystoneSimnet$Routing"
  | 5 => .array .int
  | 6 => .int
  | 7 => .array .long
  | 8 => .array .long
  | 9 => .array .int
  | 10 => .array .int
  | 11 => .int
  | 12 => .int
  | 13 => .array .long
  | 14 => .array .long
  | 15 => .int
  | _ => .int
abbrev wsX40 : List Cond := u_ws RX4 TX4 17
theorem nmX4 : ∀ a, a < 17 → ∀ b, b < 17 → a ≠ b → (TX4 a).2.1 ≠ (TX4 b).2.1 := by decide +kernel
theorem tyX4_ok : ∀ k, k < 17 → parseFieldDescriptor (TX4 k).2.2.1 = some (tyX4 k) := by decide +kernel
abbrev cX4_init : ByteArray := prog_6_method_1_code
def yX4_init : MethodName := ⟨RX4, "<init>", "(LDrystoneSimnet$Wiring;LDrystoneSimnet$Sight;LDrystoneSimnet$Addresses;[LDrystoneSimnet$Router;LDrystoneSimnet$Routing;)V"⟩
abbrev cX4_routerPassed : ByteArray := prog_6_method_2_code
def yX4_routerPassed : MethodName := ⟨RX4, "routerPassed", "(IIII)I"⟩
abbrev cX4_countByPackets : ByteArray := prog_6_method_3_code
def yX4_countByPackets : MethodName := ⟨RX4, "countByPackets", "(II)I"⟩
abbrev cX4_walk : ByteArray := prog_6_method_4_code
def yX4_walk : MethodName := ⟨RX4, "walk", "(III)I"⟩
abbrev cX4_fateAt : ByteArray := prog_6_method_5_code
def yX4_fateAt : MethodName := ⟨RX4, "fateAt", "(IIII)I"⟩
abbrev cX4_countBySets : ByteArray := prog_6_method_6_code
def yX4_countBySets : MethodName := ⟨RX4, "countBySets", "(II)I"⟩
abbrev cX4_startFrom : ByteArray := prog_6_method_7_code
def yX4_startFrom : MethodName := ⟨RX4, "startFrom", "(I)V"⟩
abbrev cX4_turnToComing : ByteArray := prog_6_method_8_code
def yX4_turnToComing : MethodName := ⟨RX4, "turnToComing", "()V"⟩
abbrev cX4_takeHeaders : ByteArray := prog_6_method_9_code
def yX4_takeHeaders : MethodName := ⟨RX4, "takeHeaders", "(I)V"⟩
abbrev cX4_ownAddresses : ByteArray := prog_6_method_10_code
def yX4_ownAddresses : MethodName := ⟨RX4, "ownAddresses", "(I)J"⟩
abbrev cX4_deliver : ByteArray := prog_6_method_11_code
def yX4_deliver : MethodName := ⟨RX4, "delive\x72", "([JJI)V"⟩
abbrev cX4_filter : ByteArray := prog_6_method_12_code
def yX4_filter : MethodName := ⟨RX4, "filte\x72", "(LDrystoneSimnet$Router;I)V"⟩
abbrev cX4_sendOn : ByteArray := prog_6_method_13_code
def yX4_sendOn : MethodName := ⟨RX4, "sendOn", "(II)V"⟩
abbrev cX4_sendByConnected : ByteArray := prog_6_method_14_code
def yX4_sendByConnected : MethodName := ⟨RX4, "sendByConnected", "(III)V"⟩
abbrev cX4_sendByTold : ByteArray := prog_6_method_15_code
def yX4_sendByTold : MethodName := ⟨RX4, "sendByTold", "(III)V"⟩
abbrev cX4_sendByLearnt : ByteArray := prog_6_method_16_code
def yX4_sendByLearnt : MethodName := ⟨RX4, "sendByLearnt", "(III)V"⟩
abbrev cX4_splitOff : ByteArray := prog_6_method_17_code
def yX4_splitOff : MethodName := ⟨RX4, "splitOff", "(II)Z"⟩
abbrev cX4_sendToEach : ByteArray := prog_6_method_18_code
def yX4_sendToEach : MethodName := ⟨RX4, "sendToEach", "(II)V"⟩
abbrev cX4_sendTogether : ByteArray := prog_6_method_19_code
def yX4_sendTogether : MethodName := ⟨RX4, "sendTogethe\x72", "(II)V"⟩
abbrev cX4_arrive : ByteArray := prog_6_method_20_code
def yX4_arrive : MethodName := ⟨RX4, "arrive", "(IIJ)V"⟩
abbrev cX4_join : ByteArray := prog_6_method_21_code
def yX4_join : MethodName := ⟨RX4, "join", "(IJ)V"⟩
def RX5 : String := "DrystoneSimnet$Route\x72"
def TX5 : u_T := fun k => match k with
  | 0 => ("DrystoneSimnet$Route\x72", "told", "I", false)
  | 1 => ("DrystoneSimnet$Route\x72", "toldPrefix", "[I", true)
  | 2 => ("DrystoneSimnet$Route\x72", "toldLength", "[I", true)
  | 3 => ("DrystoneSimnet$Route\x72", "toldNext", "[I", true)
  | 4 => ("DrystoneSimnet$Route\x72", "rules", "I", false)
  | 5 => ("DrystoneSimnet$Route\x72", "ruleSource", "[I", true)
  | 6 => ("DrystoneSimnet$Route\x72", "ruleLength", "[I", true)
  | 7 => ("DrystoneSimnet$Route\x72", "ruleDest", "[I", true)
  | 8 => ("DrystoneSimnet$Route\x72", "ruleFa\x72", "[I", true)
  | 9 => ("DrystoneSimnet$Route\x72", "ruleService", "[I", true)
  | 10 => ("DrystoneSimnet$Route\x72", "rulePasses", "[Z", true)
  | 11 => ("DrystoneSimnet$Route\x72", "watches", "Z", false)
  | 12 => ("DrystoneSimnet$Route\x72", "forgottenUpTo", "I", false)
  | _ => ("DrystoneSimnet$Route\x72", "pools", "[LDrystoneSimnet$Pool;", true)
def tyX5 : Nat → FieldType := fun k => match k with
  | 0 => .int
  | 1 => .array .int
  | 2 => .array .int
  | 3 => .array .int
  | 4 => .int
  | 5 => .array .int
  | 6 => .array .int
  | 7 => .array .int
  | 8 => .array .int
  | 9 => .array .int
  | 10 => .array .boolean
  | 11 => .boolean
  | 12 => .int
  | _ => .array (.object "DrystoneSimnet$Pool")
abbrev wsX50 : List Cond := u_ws RX5 TX5 14
theorem nmX5 : ∀ a, a < 14 → ∀ b, b < 14 → a ≠ b → (TX5 a).2.1 ≠ (TX5 b).2.1 := by decide +kernel
theorem tyX5_ok : ∀ k, k < 14 → parseFieldDescriptor (TX5 k).2.2.1 = some (tyX5 k) := by decide +kernel
abbrev cX5_init : ByteArray := prog_7_method_1_code
def yX5_init : MethodName := ⟨RX5, "<init>", "()V"⟩
abbrev cX5_tellRoute : ByteArray := prog_7_method_2_code
def yX5_tellRoute : MethodName := ⟨RX5, "tellRoute", "(III)I"⟩
abbrev cX5_tellRule : ByteArray := prog_7_method_3_code
def yX5_tellRule : MethodName := ⟨RX5, "tellRule", "(IIIIIZ)I"⟩
abbrev cX5_letWatch : ByteArray := prog_7_method_4_code
def yX5_letWatch : MethodName := ⟨RX5, "letWatch", "(ZI)Z"⟩
abbrev cX5_toldFor : ByteArray := prog_7_method_5_code
def yX5_toldFor : MethodName := ⟨RX5, "toldFo\x72", "(II)I"⟩
abbrev cX5_rulesPass : ByteArray := prog_7_method_6_code
def yX5_rulesPass : MethodName := ⟨RX5, "rulesPass", "(III)Z"⟩
abbrev cX5_translatedBack : ByteArray := prog_7_method_7_code
def yX5_translatedBack : MethodName := ⟨RX5, "translatedBack", "(II)I"⟩
def RX6 : String := "DrystoneSimnet$Routing"
def TX6 : u_T := fun k => match k with
  | 0 => ("DrystoneSimnet$Routing", "wiring", "LDrystoneSimnet$Wiring;", true)
  | 1 => ("DrystoneSimnet$Routing", "sight", "LDrystoneSimnet$Sight;", true)
  | 2 => ("DrystoneSimnet$Routing", "addresses", "LDrystoneSimnet$Addresses;", true)
  | 3 => ("DrystoneSimnet$Routing", "routers", "[LDrystoneSimnet$Router;", true)
  | 4 => ("DrystoneSimnet$Routing", "current", "LDrystoneSimnet$Tables;", false)
  | 5 => ("DrystoneSimnet$Routing", "settled", "LDrystoneSimnet$Tables;", false)
  | 6 => ("DrystoneSimnet$Routing", "spare", "LDrystoneSimnet$Tables;", false)
  | 7 => ("DrystoneSimnet$Routing", "stable", "Z", false)
  | _ => ("DrystoneSimnet$Routing", "settledIsFresh", "Z", false)
def tyX6 : Nat → FieldType := fun k => match k with
  | 0 => .object "DrystoneSimnet$Wiring"
  | 1 => .object "DrystoneSimnet$Sight"
  | 2 => .object "DrystoneSimnet$Addresses"
  | 3 => .array (.object "DrystoneSimnet$Route\x72")
  | 4 => .object "DrystoneSimnet$Tables"
  | 5 => .object "DrystoneSimnet$Tables"
  | 6 => .object "DrystoneSimnet$Tables"
  | 7 => .boolean
  | _ => .boolean
abbrev wsX60 : List Cond := u_ws RX6 TX6 9
theorem nmX6 : ∀ a, a < 9 → ∀ b, b < 9 → a ≠ b → (TX6 a).2.1 ≠ (TX6 b).2.1 := by decide +kernel
theorem tyX6_ok : ∀ k, k < 9 → parseFieldDescriptor (TX6 k).2.2.1 = some (tyX6 k) := by decide +kernel
abbrev cX6_init : ByteArray := prog_8_method_1_code
def yX6_init : MethodName := ⟨RX6, "<init>", "(LDrystoneSimnet$Wiring;LDrystoneSimnet$Sight;LDrystoneSimnet$Addresses;[LDrystoneSimnet$Router;)V"⟩
abbrev cX6_disturb : ByteArray := prog_8_method_2_code
def yX6_disturb : MethodName := ⟨RX6, "disturb", "()V"⟩
abbrev cX6_learn : ByteArray := prog_8_method_3_code
def yX6_learn : MethodName := ⟨RX6, "learn", "()V"⟩
abbrev cX6_settle : ByteArray := prog_8_method_4_code
def yX6_settle : MethodName := ⟨RX6, "settle", "()V"⟩
abbrev cX6_learnOnce : ByteArray := prog_8_method_5_code
def yX6_learnOnce : MethodName := ⟨RX6, "learnOnce", "(LDrystoneSimnet$Tables;)V"⟩
abbrev cX6_listenAround : ByteArray := prog_8_method_6_code
def yX6_listenAround : MethodName := ⟨RX6, "listenAround", "(LDrystoneSimnet$Tables;I)V"⟩
abbrev cX6_hear : ByteArray := prog_8_method_7_code
def yX6_hear : MethodName := ⟨RX6, "hea\x72", "(LDrystoneSimnet$Tables;II)V"⟩
abbrev cX6_learntOf : ByteArray := prog_8_method_8_code
def yX6_learntOf : MethodName := ⟨RX6, "learntOf", "(II)I"⟩
abbrev cX6_hopFromHost : ByteArray := prog_8_method_9_code
def yX6_hopFromHost : MethodName := ⟨RX6, "hopFromHost", "(II)I"⟩
abbrev cX6_hopFromRouter : ByteArray := prog_8_method_10_code
def yX6_hopFromRouter : MethodName := ⟨RX6, "hopFromRoute\x72", "(LDrystoneSimnet$Tables;II)I"⟩
abbrev cX6_hopByEntry : ByteArray := prog_8_method_11_code
def yX6_hopByEntry : MethodName := ⟨RX6, "hopByEntry", "(II)I"⟩
abbrev cX6_hopTo : ByteArray := prog_8_method_12_code
def yX6_hopTo : MethodName := ⟨RX6, "hopTo", "(II)I"⟩
def RX7 : String := "DrystoneSimnet$Sight"
def TX7 : u_T := fun k => match k with
  | 0 => ("DrystoneSimnet$Sight", "wiring", "LDrystoneSimnet$Wiring;", true)
  | 1 => ("DrystoneSimnet$Sight", "nets", "[I", true)
  | 2 => ("DrystoneSimnet$Sight", "seen", "[J", true)
  | 3 => ("DrystoneSimnet$Sight", "fresh", "Z", false)
  | 4 => ("DrystoneSimnet$Sight", "floodedPorts", "[I", true)
  | _ => ("DrystoneSimnet$Sight", "floodedTags", "[I", true)
def tyX7 : Nat → FieldType := fun k => match k with
  | 0 => .object "DrystoneSimnet$Wiring"
  | 1 => .array .int
  | 2 => .array .long
  | 3 => .boolean
  | 4 => .array .int
  | _ => .array .int
abbrev wsX70 : List Cond := u_ws RX7 TX7 6
theorem nmX7 : ∀ a, a < 6 → ∀ b, b < 6 → a ≠ b → (TX7 a).2.1 ≠ (TX7 b).2.1 := by decide +kernel
theorem tyX7_ok : ∀ k, k < 6 → parseFieldDescriptor (TX7 k).2.2.1 = some (tyX7 k) := by decide +kernel
abbrev cX7_init : ByteArray := prog_9_method_1_code
def yX7_init : MethodName := ⟨RX7, "<init>", "(LDrystoneSimnet$Wiring;)V"⟩
abbrev cX7_forget : ByteArray := prog_9_method_2_code
def yX7_forget : MethodName := ⟨RX7, "forget", "()V"⟩
abbrev cX7_refresh : ByteArray := prog_9_method_3_code
def yX7_refresh : MethodName := ⟨RX7, "refresh", "()V"⟩
abbrev cX7_reaches : ByteArray := prog_9_method_4_code
def yX7_reaches : MethodName := ⟨RX7, "reaches", "(II)Z"⟩
abbrev cX7_netInside : ByteArray := prog_9_method_5_code
def yX7_netInside : MethodName := ⟨RX7, "netInside", "(II)I"⟩
abbrev cX7_tagOutside : ByteArray := prog_9_method_6_code
def yX7_tagOutside : MethodName := ⟨RX7, "tagOutside", "(II)I"⟩
abbrev cX7_floodFrom : ByteArray := prog_9_method_7_code
def yX7_floodFrom : MethodName := ⟨RX7, "floodFrom", "(I)J"⟩
def RX8 : String := "DrystoneSimnet$Tables"
def TX8 : u_T := fun k => match k with
  | 0 => ("DrystoneSimnet$Tables", "entries", "[[I", true)
  | 1 => ("DrystoneSimnet$Tables", "known", "[[I", true)
  | _ => ("DrystoneSimnet$Tables", "counts", "[I", true)
def tyX8 : Nat → FieldType := fun k => match k with
  | 0 => .array (.array .int)
  | 1 => .array (.array .int)
  | _ => .array .int
abbrev wsX80 : List Cond := u_ws RX8 TX8 3
theorem nmX8 : ∀ a, a < 3 → ∀ b, b < 3 → a ≠ b → (TX8 a).2.1 ≠ (TX8 b).2.1 := by decide +kernel
theorem tyX8_ok : ∀ k, k < 3 → parseFieldDescriptor (TX8 k).2.2.1 = some (tyX8 k) := by decide +kernel
abbrev cX8_init : ByteArray := prog_10_method_1_code
def yX8_init : MethodName := ⟨RX8, "<init>", "()V"⟩
abbrev cX8_clear : ByteArray := prog_10_method_2_code
def yX8_clear : MethodName := ⟨RX8, "clea\x72", "(I)V"⟩
abbrev cX8_offer : ByteArray := prog_10_method_3_code
def yX8_offer : MethodName := ⟨RX8, "offe\x72", "(III)V"⟩
abbrev cX8_entryFor : ByteArray := prog_10_method_4_code
def yX8_entryFor : MethodName := ⟨RX8, "entryFo\x72", "(III)I"⟩
abbrev cX8_copyFrom : ByteArray := prog_10_method_5_code
def yX8_copyFrom : MethodName := ⟨RX8, "copyFrom", "(LDrystoneSimnet$Tables;)V"⟩
abbrev cX8_isLike : ByteArray := prog_10_method_6_code
def yX8_isLike : MethodName := ⟨RX8, "isLike", "(LDrystoneSimnet$Tables;)Z"⟩
def RX9 : String := "DrystoneSimnet$Traffic"
def TX9 : u_T := fun k => match k with
  | 0 => ("DrystoneSimnet$Traffic", "wiring", "LDrystoneSimnet$Wiring;", true)
  | 1 => ("DrystoneSimnet$Traffic", "sight", "LDrystoneSimnet$Sight;", true)
  | 2 => ("DrystoneSimnet$Traffic", "addresses", "LDrystoneSimnet$Addresses;", true)
  | 3 => ("DrystoneSimnet$Traffic", "routers", "[LDrystoneSimnet$Router;", true)
  | 4 => ("DrystoneSimnet$Traffic", "routing", "LDrystoneSimnet$Routing;", true)
  | 5 => ("DrystoneSimnet$Traffic", "notes", "LDrystoneSimnet$Notes;", true)
  | 6 => ("DrystoneSimnet$Traffic", "now", "I", false)
  | 7 => ("DrystoneSimnet$Traffic", "ring", "[LDrystoneSimnet$Frame;", true)
  | 8 => ("DrystoneSimnet$Traffic", "first", "I", false)
  | 9 => ("DrystoneSimnet$Traffic", "onCables", "I", false)
  | 10 => ("DrystoneSimnet$Traffic", "draft", "LDrystoneSimnet$Frame;", true)
  | 11 => ("DrystoneSimnet$Traffic", "packets", "I", false)
  | 12 => ("DrystoneSimnet$Traffic", "services", "[I", true)
  | 13 => ("DrystoneSimnet$Traffic", "fates", "[I", true)
  | 14 => ("DrystoneSimnet$Traffic", "places", "[I", true)
  | 15 => ("DrystoneSimnet$Traffic", "sources", "[I", true)
  | 16 => ("DrystoneSimnet$Traffic", "framesOf", "[I", true)
  | 17 => ("DrystoneSimnet$Traffic", "bridgePorts", "[[I", true)
  | _ => ("DrystoneSimnet$Traffic", "bridgeTicks", "[[I", true)
def tyX9 : Nat → FieldType := fun k => match k with
  | 0 => .object "DrystoneSimnet$Wiring"
  | 1 => .object "DrystoneSimnet$Sight"
  | 2 => .object "DrystoneSimnet$Addresses"
  | 3 => .array (.object "DrystoneSimnet$Route\x72")
  | 4 => .object "DrystoneSimnet$Routing"
  | 5 => .object "DrystoneSimnet$Notes"
  | 6 => .int
  | 7 => .array (.object "DrystoneSimnet$Frame")
  | 8 => .int
  | 9 => .int
  | 10 => .object "DrystoneSimnet$Frame"
  | 11 => .int
  | 12 => .array .int
  | 13 => .array .int
  | 14 => .array .int
  | 15 => .array .int
  | 16 => .array .int
  | 17 => .array (.array .int)
  | _ => .array (.array .int)
abbrev wsX90 : List Cond := u_ws RX9 TX9 19
theorem nmX9 : ∀ a, a < 19 → ∀ b, b < 19 → a ≠ b → (TX9 a).2.1 ≠ (TX9 b).2.1 := by decide +kernel
theorem tyX9_ok : ∀ k, k < 19 → parseFieldDescriptor (TX9 k).2.2.1 = some (tyX9 k) := by decide +kernel
abbrev cX9_init : ByteArray := prog_11_method_1_code
def yX9_init : MethodName := ⟨RX9, "<init>", "(LDrystoneSimnet$Wiring;LDrystoneSimnet$Sight;LDrystoneSimnet$Addresses;[LDrystoneSimnet$Router;LDrystoneSimnet$Routing;)V"⟩
abbrev cX9_launch : ByteArray := prog_11_method_2_code
def yX9_launch : MethodName := ⟨RX9, "launch", "(III)I"⟩
abbrev cX9_passTick : ByteArray := prog_11_method_3_code
def yX9_passTick : MethodName := ⟨RX9, "passTick", "()V"⟩
abbrev cX9_notedPort : ByteArray := prog_11_method_4_code
def yX9_notedPort : MethodName := ⟨RX9, "notedPort", "(II)I"⟩
abbrev cX9_arrive : ByteArray := prog_11_method_5_code
def yX9_arrive : MethodName := ⟨RX9, "arrive", "(LDrystoneSimnet$Frame;)V"⟩
abbrev cX9_crossBridge : ByteArray := prog_11_method_6_code
def yX9_crossBridge : MethodName := ⟨RX9, "crossBridge", "(LDrystoneSimnet$Frame;I)V"⟩
abbrev cX9_comeToRouter : ByteArray := prog_11_method_7_code
def yX9_comeToRouter : MethodName := ⟨RX9, "comeToRoute\x72", "(LDrystoneSimnet$Frame;I)V"⟩
abbrev cX9_passesRules : ByteArray := prog_11_method_8_code
def yX9_passesRules : MethodName := ⟨RX9, "passesRules", "(LDrystoneSimnet$Frame;I)Z"⟩
abbrev cX9_sendOn : ByteArray := prog_11_method_9_code
def yX9_sendOn : MethodName := ⟨RX9, "sendOn", "(LDrystoneSimnet$Frame;I)V"⟩
abbrev cX9_putOnHop : ByteArray := prog_11_method_10_code
def yX9_putOnHop : MethodName := ⟨RX9, "putOnHop", "(LDrystoneSimnet$Frame;I)V"⟩
abbrev cX9_put : ByteArray := prog_11_method_11_code
def yX9_put : MethodName := ⟨RX9, "put", "(LDrystoneSimnet$Frame;II)V"⟩
abbrev cX9_end : ByteArray := prog_11_method_12_code
def yX9_end : MethodName := ⟨RX9, "end", "(LDrystoneSimnet$Frame;II)V"⟩
abbrev cX9_loseIfGone : ByteArray := prog_11_method_13_code
def yX9_loseIfGone : MethodName := ⟨RX9, "loseIfGone", "(I)V"⟩
def RX10 : String := "DrystoneSimnet$Wiring"
def TX10 : u_T := fun k => match k with
  | 0 => ("DrystoneSimnet$Wiring", "boxes", "I", false)
  | 1 => ("DrystoneSimnet$Wiring", "cables", "I", false)
  | 2 => ("DrystoneSimnet$Wiring", "kinds", "[I", true)
  | 3 => ("DrystoneSimnet$Wiring", "cableAt", "[I", true)
  | 4 => ("DrystoneSimnet$Wiring", "across", "[I", true)
  | 5 => ("DrystoneSimnet$Wiring", "oneEnd", "[I", true)
  | 6 => ("DrystoneSimnet$Wiring", "otherEnd", "[I", true)
  | 7 => ("DrystoneSimnet$Wiring", "broken", "[Z", true)
  | 8 => ("DrystoneSimnet$Wiring", "blocked", "[Z", true)
  | 9 => ("DrystoneSimnet$Wiring", "distance", "[I", true)
  | _ => ("DrystoneSimnet$Wiring", "towardsRoot", "[I", true)
def tyX10 : Nat → FieldType := fun k => match k with
  | 0 => .int
  | 1 => .int
  | 2 => .array .int
  | 3 => .array .int
  | 4 => .array .int
  | 5 => .array .int
  | 6 => .array .int
  | 7 => .array .boolean
  | 8 => .array .boolean
  | 9 => .array .int
  | _ => .array .int
abbrev wsX100 : List Cond := u_ws RX10 TX10 11
theorem nmX10 : ∀ a, a < 11 → ∀ b, b < 11 → a ≠ b → (TX10 a).2.1 ≠ (TX10 b).2.1 := by decide +kernel
theorem tyX10_ok : ∀ k, k < 11 → parseFieldDescriptor (TX10 k).2.2.1 = some (tyX10 k) := by decide +kernel
abbrev cX10_init : ByteArray := prog_12_method_1_code
def yX10_init : MethodName := ⟨RX10, "<init>", "()V"⟩
abbrev cX10_hasBox : ByteArray := prog_12_method_2_code
def yX10_hasBox : MethodName := ⟨RX10, "hasBox", "(I)Z"⟩
abbrev cX10_kindOf : ByteArray := prog_12_method_3_code
def yX10_kindOf : MethodName := ⟨RX10, "kindOf", "(I)I"⟩
abbrev cX10_hasPort : ByteArray := prog_12_method_4_code
def yX10_hasPort : MethodName := ⟨RX10, "hasPort", "(I)Z"⟩
abbrev cX10_isStation : ByteArray := prog_12_method_5_code
def yX10_isStation : MethodName := ⟨RX10, "isStation", "(I)Z"⟩
abbrev cX10_addBox : ByteArray := prog_12_method_6_code
def yX10_addBox : MethodName := ⟨RX10, "addBox", "(I)I"⟩
abbrev cX10_layCable : ByteArray := prog_12_method_7_code
def yX10_layCable : MethodName := ⟨RX10, "layCable", "(II)I"⟩
abbrev cX10_growTree : ByteArray := prog_12_method_8_code
def yX10_growTree : MethodName := ⟨RX10, "growTree", "()V"⟩
abbrev cX10_isWholeLink : ByteArray := prog_12_method_9_code
def yX10_isWholeLink : MethodName := ⟨RX10, "isWholeLink", "(I)Z"⟩
abbrev cX10_measureDistances : ByteArray := prog_12_method_10_code
def yX10_measureDistances : MethodName := ⟨RX10, "measureDistances", "()V"⟩
abbrev cX10_spreadDistances : ByteArray := prog_12_method_11_code
def yX10_spreadDistances : MethodName := ⟨RX10, "spreadDistances", "()V"⟩
abbrev cX10_spreadOver : ByteArray := prog_12_method_12_code
def yX10_spreadOver : MethodName := ⟨RX10, "spreadOve\x72", "(III)V"⟩
abbrev cX10_offerTowardsRoot : ByteArray := prog_12_method_13_code
def yX10_offerTowardsRoot : MethodName := ⟨RX10, "offerTowardsRoot", "(III)V"⟩
abbrev cX10_neighbourBy : ByteArray := prog_12_method_14_code
def yX10_neighbourBy : MethodName := ⟨RX10, "neighbourBy", "(II)I"⟩
def RX11 : String := "DrystoneSimnet"
def TX11 : u_T := fun k => match k with
  | 0 => ("DrystoneSimnet", "wiring", "LDrystoneSimnet$Wiring;", true)
  | 1 => ("DrystoneSimnet", "sight", "LDrystoneSimnet$Sight;", true)
  | 2 => ("DrystoneSimnet", "addresses", "LDrystoneSimnet$Addresses;", true)
  | 3 => ("DrystoneSimnet", "routers", "[LDrystoneSimnet$Router;", true)
  | 4 => ("DrystoneSimnet", "routing", "LDrystoneSimnet$Routing;", true)
  | 5 => ("DrystoneSimnet", "traffic", "LDrystoneSimnet$Traffic;", true)
  | _ => ("DrystoneSimnet", "proofs", "LDrystoneSimnet$Proofs;", true)
def tyX11 : Nat → FieldType := fun k => match k with
  | 0 => .object "DrystoneSimnet$Wiring"
  | 1 => .object "DrystoneSimnet$Sight"
  | 2 => .object "DrystoneSimnet$Addresses"
  | 3 => .array (.object "DrystoneSimnet$Route\x72")
  | 4 => .object "DrystoneSimnet$Routing"
  | 5 => .object "DrystoneSimnet$Traffic"
  | _ => .object "DrystoneSimnet$Proofs"
abbrev wsX110 : List Cond := u_ws RX11 TX11 7
theorem nmX11 : ∀ a, a < 7 → ∀ b, b < 7 → a ≠ b → (TX11 a).2.1 ≠ (TX11 b).2.1 := by decide +kernel
theorem tyX11_ok : ∀ k, k < 7 → parseFieldDescriptor (TX11 k).2.2.1 = some (tyX11 k) := by decide +kernel
abbrev cX11_init : ByteArray := prog_1_method_1_code
def yX11_init : MethodName := ⟨RX11, "<init>", "()V"⟩
abbrev cX11_box : ByteArray := prog_1_method_2_code
def yX11_box : MethodName := ⟨RX11, "box", "(I)I"⟩
abbrev cX11_cable : ByteArray := prog_1_method_3_code
def yX11_cable : MethodName := ⟨RX11, "cable", "(II)I"⟩
abbrev cX11_turn : ByteArray := prog_1_method_4_code
def yX11_turn : MethodName := ⟨RX11, "turn", "(I)Z"⟩
abbrev cX11_isBlocked : ByteArray := prog_1_method_5_code
def yX11_isBlocked : MethodName := ⟨RX11, "isBlocked", "(I)Z"⟩
abbrev cX11_net : ByteArray := prog_1_method_6_code
def yX11_net : MethodName := ⟨RX11, "net", "(II)I"⟩
abbrev cX11_sees : ByteArray := prog_1_method_7_code
def yX11_sees : MethodName := ⟨RX11, "sees", "(II)Z"⟩
abbrev cX11_address : ByteArray := prog_1_method_8_code
def yX11_address : MethodName := ⟨RX11, "address", "(III)I"⟩
abbrev cX11_gateway : ByteArray := prog_1_method_9_code
def yX11_gateway : MethodName := ⟨RX11, "gateway", "(II)I"⟩
abbrev cX11_route : ByteArray := prog_1_method_10_code
def yX11_route : MethodName := ⟨RX11, "route", "(IIII)I"⟩
abbrev cX11_rule : ByteArray := prog_1_method_11_code
def yX11_rule : MethodName := ⟨RX11, "rule", "(IIIIIIZ)I"⟩
abbrev cX11_watch : ByteArray := prog_1_method_12_code
def yX11_watch : MethodName := ⟨RX11, "watch", "(IZ)Z"⟩
abbrev cX11_pool : ByteArray := prog_1_method_13_code
def yX11_pool : MethodName := ⟨RX11, "pool", "(III)I"⟩
abbrev cX11_send : ByteArray := prog_1_method_14_code
def yX11_send : MethodName := ⟨RX11, "send", "(III)I"⟩
abbrev cX11_tick : ByteArray := prog_1_method_15_code
def yX11_tick : MethodName := ⟨RX11, "tick", "(I)I"⟩
abbrev cX11_fate : ByteArray := prog_1_method_16_code
def yX11_fate : MethodName := ⟨RX11, "fate", "(I)I"⟩
abbrev cX11_where : ByteArray := prog_1_method_17_code
def yX11_where : MethodName := ⟨RX11, "where", "(I)I"⟩
abbrev cX11_source : ByteArray := prog_1_method_18_code
def yX11_source : MethodName := ⟨RX11, "source", "(I)I"⟩
abbrev cX11_frames : ByteArray := prog_1_method_19_code
def yX11_frames : MethodName := ⟨RX11, "frames", "()I"⟩
abbrev cX11_noted : ByteArray := prog_1_method_20_code
def yX11_noted : MethodName := ⟨RX11, "noted", "(II)I"⟩
abbrev cX11_learnt : ByteArray := prog_1_method_21_code
def yX11_learnt : MethodName := ⟨RX11, "learnt", "(III)I"⟩
abbrev cX11_reach : ByteArray := prog_1_method_22_code
def yX11_reach : MethodName := ⟨RX11, "reach", "(II)I"⟩
abbrev cX11_reachAnew : ByteArray := prog_1_method_23_code
def yX11_reachAnew : MethodName := ⟨RX11, "reachAnew", "(II)I"⟩
abbrev cX11_proved : ByteArray := prog_1_method_24_code
def yX11_proved : MethodName := ⟨RX11, "proved", "(III)I"⟩
abbrev cX11_way : ByteArray := prog_1_method_25_code
def yX11_way : MethodName := ⟨RX11, "way", "(IIII)I"⟩
abbrev cX11_needBox : ByteArray := prog_1_method_26_code
def yX11_needBox : MethodName := ⟨RX11, "needBox", "(I)V"⟩
abbrev cX11_needPort : ByteArray := prog_1_method_27_code
def yX11_needPort : MethodName := ⟨RX11, "needPort", "(I)V"⟩
abbrev cX11_needCable : ByteArray := prog_1_method_28_code
def yX11_needCable : MethodName := ⟨RX11, "needCable", "(I)V"⟩
abbrev cX11_needPacket : ByteArray := prog_1_method_29_code
def yX11_needPacket : MethodName := ⟨RX11, "needPacket", "(I)V"⟩
abbrev cX11_needArgument : ByteArray := prog_1_method_30_code
def yX11_needArgument : MethodName := ⟨RX11, "needArgument", "(Z)V"⟩
abbrev cX11_needRoom : ByteArray := prog_1_method_31_code
def yX11_needRoom : MethodName := ⟨RX11, "needRoom", "(Z)V"⟩
abbrev cX11_takeNewWiring : ByteArray := prog_1_method_32_code
def yX11_takeNewWiring : MethodName := ⟨RX11, "takeNewWiring", "()V"⟩
abbrev cX11_takeNewSight : ByteArray := prog_1_method_33_code
def yX11_takeNewSight : MethodName := ⟨RX11, "takeNewSight", "()V"⟩
abbrev cX11_boxOf : ByteArray := prog_1_method_34_code
def yX11_boxOf : MethodName := ⟨RX11, "boxOf", "(I)I"⟩
abbrev cX11_ownNumber : ByteArray := prog_1_method_35_code
def yX11_ownNumber : MethodName := ⟨RX11, "ownNumbe\x72", "(I)I"⟩
abbrev cX11_firstPortOf : ByteArray := prog_1_method_36_code
def yX11_firstPortOf : MethodName := ⟨RX11, "firstPortOf", "(I)I"⟩
abbrev cX11_isAddress : ByteArray := prog_1_method_37_code
def yX11_isAddress : MethodName := ⟨RX11, "isAddress", "(I)Z"⟩
abbrev cX11_isPrefix : ByteArray := prog_1_method_38_code
def yX11_isPrefix : MethodName := ⟨RX11, "isPrefix", "(II)Z"⟩
abbrev cX11_isService : ByteArray := prog_1_method_39_code
def yX11_isService : MethodName := ⟨RX11, "isService", "(I)Z"⟩
abbrev cX11_inPrefix : ByteArray := prog_1_method_40_code
def yX11_inPrefix : MethodName := ⟨RX11, "inPrefix", "(III)Z"⟩
abbrev cX11_prefixNumber : ByteArray := prog_1_method_41_code
def yX11_prefixNumber : MethodName := ⟨RX11, "prefixNumbe\x72", "(II)I"⟩
abbrev cX11_membersOf : ByteArray := prog_1_method_42_code
def yX11_membersOf : MethodName := ⟨RX11, "membersOf", "(II)J"⟩
def RX12 : String := "DrystoneSimnetModel"
def TX12 : u_T := fun k => match k with
  | 0 => ("DrystoneSimnetModel", "boxes", "I", false)
  | 1 => ("DrystoneSimnetModel", "kind", "[I", true)
  | 2 => ("DrystoneSimnetModel", "cables", "I", false)
  | 3 => ("DrystoneSimnetModel", "one", "[I", true)
  | 4 => ("DrystoneSimnetModel", "two", "[I", true)
  | 5 => ("DrystoneSimnetModel", "isBroken", "[Z", true)
  | 6 => ("DrystoneSimnetModel", "isBlocked", "[Z", true)
  | 7 => ("DrystoneSimnetModel", "fa\x72", "[I", true)
  | 8 => ("DrystoneSimnetModel", "cableOf", "[I", true)
  | 9 => ("DrystoneSimnetModel", "net", "[I", true)
  | 10 => ("DrystoneSimnetModel", "address", "[I", true)
  | 11 => ("DrystoneSimnetModel", "length", "[I", true)
  | 12 => ("DrystoneSimnetModel", "gateway", "[I", true)
  | 13 => ("DrystoneSimnetModel", "told", "[I", true)
  | 14 => ("DrystoneSimnetModel", "routeAddress", "[I", true)
  | 15 => ("DrystoneSimnetModel", "routeLength", "[I", true)
  | 16 => ("DrystoneSimnetModel", "routeNext", "[I", true)
  | 17 => ("DrystoneSimnetModel", "rules", "[I", true)
  | 18 => ("DrystoneSimnetModel", "rule", "[I", true)
  | 19 => ("DrystoneSimnetModel", "watches", "[Z", true)
  | 20 => ("DrystoneSimnetModel", "notes", "[I", true)
  | 21 => ("DrystoneSimnetModel", "note", "[I", true)
  | 22 => ("DrystoneSimnetModel", "noteTick", "[I", true)
  | 23 => ("DrystoneSimnetModel", "poolFrom", "[I", true)
  | 24 => ("DrystoneSimnetModel", "poolMany", "[I", true)
  | 25 => ("DrystoneSimnetModel", "got", "[I", true)
  | 26 => ("DrystoneSimnetModel", "usedAt", "[I", true)
  | 27 => ("DrystoneSimnetModel", "table", "[I", true)
  | 28 => ("DrystoneSimnetModel", "sees", "[Z", true)
  | 29 => ("DrystoneSimnetModel", "way", "[I", true)
  | 30 => ("DrystoneSimnetModel", "tags", "[I", true)
  | 31 => ("DrystoneSimnetModel", "ticks", "I", false)
  | 32 => ("DrystoneSimnetModel", "seen", "[I", true)
  | 33 => ("DrystoneSimnetModel", "seenAt", "[I", true)
  | 34 => ("DrystoneSimnetModel", "frames", "I", false)
  | 35 => ("DrystoneSimnetModel", "frame", "[I", true)
  | 36 => ("DrystoneSimnetModel", "taken", "[I", true)
  | 37 => ("DrystoneSimnetModel", "packets", "I", false)
  | 38 => ("DrystoneSimnetModel", "fate", "[I", true)
  | 39 => ("DrystoneSimnetModel", "where", "[I", true)
  | 40 => ("DrystoneSimnetModel", "source", "[I", true)
  | 41 => ("DrystoneSimnetModel", "service", "[I", true)
  | 42 => ("DrystoneSimnetModel", "by", "I", false)
  | 43 => ("DrystoneSimnetModel", "to", "I", false)
  | 44 => ("DrystoneSimnetModel", "passed", "I", false)
  | 45 => ("DrystoneSimnetModel", "passes", "[I", true)
  | _ => ("DrystoneSimnetModel", "thrown", "I", false)
def tyX12 : Nat → FieldType := fun k => match k with
  | 0 => .int
  | 1 => .array .int
  | 2 => .int
  | 3 => .array .int
  | 4 => .array .int
  | 5 => .array .boolean
  | 6 => .array .boolean
  | 7 => .array .int
  | 8 => .array .int
  | 9 => .array .int
  | 10 => .array .int
  | 11 => .array .int
  | 12 => .array .int
  | 13 => .array .int
  | 14 => .array .int
  | 15 => .array .int
  | 16 => .array .int
  | 17 => .array .int
  | 18 => .array .int
  | 19 => .array .boolean
  | 20 => .array .int
  | 21 => .array .int
  | 22 => .array .int
  | 23 => .array .int
  | 24 => .array .int
  | 25 => .array .int
  | 26 => .array .int
  | 27 => .array .int
  | 28 => .array .boolean
  | 29 => .array .int
  | 30 => .array .int
  | 31 => .int
  | 32 => .array .int
  | 33 => .array .int
  | 34 => .int
  | 35 => .array .int
  | 36 => .array .int
  | 37 => .int
  | 38 => .array .int
  | 39 => .array .int
  | 40 => .array .int
  | 41 => .array .int
  | 42 => .int
  | 43 => .int
  | 44 => .int
  | 45 => .array .int
  | _ => .int
abbrev wsX120 : List Cond := u_ws RX12 TX12 47
theorem nmX12 : ∀ a, a < 47 → ∀ b, b < 47 → a ≠ b → (TX12 a).2.1 ≠ (TX12 b).2.1 := by decide +kernel
theorem tyX12_ok : ∀ k, k < 47 → parseFieldDescriptor (TX12 k).2.2.1 = some (tyX12 k) := by decide +kernel
abbrev cX12_init : ByteArray := prog_14_method_1_code
def yX12_init : MethodName := ⟨RX12, "<init>", "()V"⟩
abbrev cX12_thrown : ByteArray := prog_14_method_2_code
def yX12_thrown : MethodName := ⟨RX12, "thrown", "()I"⟩
abbrev cX12_can : ByteArray := prog_14_method_3_code
def yX12_can : MethodName := ⟨RX12, "can", "(I)Z"⟩
abbrev cX12_isIn : ByteArray := prog_14_method_4_code
def yX12_isIn : MethodName := ⟨RX12, "isIn", "(III)Z"⟩
abbrev cX12_isBox : ByteArray := prog_14_method_5_code
def yX12_isBox : MethodName := ⟨RX12, "isBox", "(I)Z"⟩
abbrev cX12_isPort : ByteArray := prog_14_method_6_code
def yX12_isPort : MethodName := ⟨RX12, "isPort", "(I)Z"⟩
abbrev cX12_kindAt : ByteArray := prog_14_method_7_code
def yX12_kindAt : MethodName := ⟨RX12, "kindAt", "(I)I"⟩
abbrev cX12_isAddress : ByteArray := prog_14_method_8_code
def yX12_isAddress : MethodName := ⟨RX12, "isAddress", "(I)Z"⟩
abbrev cX12_isLike : ByteArray := prog_14_method_9_code
def yX12_isLike : MethodName := ⟨RX12, "isLike", "(III)Z"⟩
abbrev cX12_prefix : ByteArray := prog_14_method_10_code
def yX12_prefix : MethodName := ⟨RX12, "prefix", "(II)I"⟩
abbrev cX12_box : ByteArray := prog_14_method_11_code
def yX12_box : MethodName := ⟨RX12, "box", "(I)I"⟩
abbrev cX12_isBetweenBridges : ByteArray := prog_14_method_12_code
def yX12_isBetweenBridges : MethodName := ⟨RX12, "isBetweenBridges", "(I)Z"⟩
abbrev cX12_otherEnd : ByteArray := prog_14_method_13_code
def yX12_otherEnd : MethodName := ⟨RX12, "otherEnd", "(I)I"⟩
abbrev cX12_upwards : ByteArray := prog_14_method_14_code
def yX12_upwards : MethodName := ⟨RX12, "upwards", "(I)I"⟩
abbrev cX12_grows : ByteArray := prog_14_method_15_code
def yX12_grows : MethodName := ⟨RX12, "grows", "()V"⟩
abbrev cX12_isOpen : ByteArray := prog_14_method_16_code
def yX12_isOpen : MethodName := ⟨RX12, "isOpen", "(I)Z"⟩
abbrev cX12_netBy : ByteArray := prog_14_method_17_code
def yX12_netBy : MethodName := ⟨RX12, "netBy", "(II)I"⟩
abbrev cX12_canLeave : ByteArray := prog_14_method_18_code
def yX12_canLeave : MethodName := ⟨RX12, "canLeave", "(II)Z"⟩
abbrev cX12_tagBy : ByteArray := prog_14_method_19_code
def yX12_tagBy : MethodName := ⟨RX12, "tagBy", "(II)I"⟩
abbrev cX12_looks : ByteArray := prog_14_method_20_code
def yX12_looks : MethodName := ⟨RX12, "looks", "(I)V"⟩
abbrev cX12_surveys : ByteArray := prog_14_method_21_code
def yX12_surveys : MethodName := ⟨RX12, "surveys", "()V"⟩
abbrev cX12_cable : ByteArray := prog_14_method_22_code
def yX12_cable : MethodName := ⟨RX12, "cable", "(II)I"⟩
abbrev cX12_isCable : ByteArray := prog_14_method_23_code
def yX12_isCable : MethodName := ⟨RX12, "isCable", "(I)Z"⟩
abbrev cX12_turn : ByteArray := prog_14_method_24_code
def yX12_turn : MethodName := ⟨RX12, "turn", "(I)Z"⟩
abbrev cX12_isBlocked : ByteArray := prog_14_method_25_code
def yX12_isBlocked : MethodName := ⟨RX12, "isBlocked", "(I)Z"⟩
abbrev cX12_net : ByteArray := prog_14_method_26_code
def yX12_net : MethodName := ⟨RX12, "net", "(II)I"⟩
abbrev cX12_sees : ByteArray := prog_14_method_27_code
def yX12_sees : MethodName := ⟨RX12, "sees", "(II)Z"⟩
abbrev cX12_address : ByteArray := prog_14_method_28_code
def yX12_address : MethodName := ⟨RX12, "address", "(III)I"⟩
abbrev cX12_isKind : ByteArray := prog_14_method_29_code
def yX12_isKind : MethodName := ⟨RX12, "isKind", "(II)Z"⟩
abbrev cX12_gateway : ByteArray := prog_14_method_30_code
def yX12_gateway : MethodName := ⟨RX12, "gateway", "(II)I"⟩
abbrev cX12_route : ByteArray := prog_14_method_31_code
def yX12_route : MethodName := ⟨RX12, "route", "(IIII)I"⟩
abbrev cX12_rule : ByteArray := prog_14_method_32_code
def yX12_rule : MethodName := ⟨RX12, "rule", "(IIIIIIZ)I"⟩
abbrev cX12_watch : ByteArray := prog_14_method_33_code
def yX12_watch : MethodName := ⟨RX12, "watch", "(IZ)Z"⟩
abbrev cX12_pool : ByteArray := prog_14_method_34_code
def yX12_pool : MethodName := ⟨RX12, "pool", "(III)I"⟩
abbrev cX12_isOwnPrefix : ByteArray := prog_14_method_35_code
def yX12_isOwnPrefix : MethodName := ⟨RX12, "isOwnPrefix", "(II)Z"⟩
abbrev cX12_place : ByteArray := prog_14_method_36_code
def yX12_place : MethodName := ⟨RX12, "place", "(III)I"⟩
abbrev cX12_distance : ByteArray := prog_14_method_37_code
def yX12_distance : MethodName := ⟨RX12, "distance", "(III)I"⟩
abbrev cX12_next : ByteArray := prog_14_method_38_code
def yX12_next : MethodName := ⟨RX12, "next", "(III)I"⟩
abbrev cX12_learns : ByteArray := prog_14_method_39_code
def yX12_learns : MethodName := ⟨RX12, "learns", "(I)Z"⟩
abbrev cX12_oneAt : ByteArray := prog_14_method_40_code
def yX12_oneAt : MethodName := ⟨RX12, "oneAt", "(II)I"⟩
abbrev cX12_connected : ByteArray := prog_14_method_41_code
def yX12_connected : MethodName := ⟨RX12, "connected", "(III)I"⟩
abbrev cX12_finds : ByteArray := prog_14_method_42_code
def yX12_finds : MethodName := ⟨RX12, "finds", "(III)I"⟩
abbrev cX12_findsTold : ByteArray := prog_14_method_43_code
def yX12_findsTold : MethodName := ⟨RX12, "findsTold", "(II)I"⟩
abbrev cX12_rulesPass : ByteArray := prog_14_method_44_code
def yX12_rulesPass : MethodName := ⟨RX12, "rulesPass", "(IIII)Z"⟩
abbrev cX12_noteOf : ByteArray := prog_14_method_45_code
def yX12_noteOf : MethodName := ⟨RX12, "noteOf", "(IIII)I"⟩
abbrev cX12_isLet : ByteArray := prog_14_method_46_code
def yX12_isLet : MethodName := ⟨RX12, "isLet", "(IIII)Z"⟩
abbrev cX12_isUsed : ByteArray := prog_14_method_47_code
def yX12_isUsed : MethodName := ⟨RX12, "isUsed", "(I)Z"⟩
abbrev cX12_pooled : ByteArray := prog_14_method_48_code
def yX12_pooled : MethodName := ⟨RX12, "pooled", "(II)I"⟩
abbrev cX12_translated : ByteArray := prog_14_method_49_code
def yX12_translated : MethodName := ⟨RX12, "translated", "(II)I"⟩
abbrev cX12_isOwn : ByteArray := prog_14_method_50_code
def yX12_isOwn : MethodName := ⟨RX12, "isOwn", "(II)Z"⟩
abbrev cX12_ends : ByteArray := prog_14_method_51_code
def yX12_ends : MethodName := ⟨RX12, "ends", "(IIII)V"⟩
abbrev cX12_puts : ByteArray := prog_14_method_52_code
def yX12_puts : MethodName := ⟨RX12, "puts", "(IIIIIIII)V"⟩
abbrev cX12_settlesLost : ByteArray := prog_14_method_53_code
def yX12_settlesLost : MethodName := ⟨RX12, "settlesLost", "()V"⟩
abbrev cX12_nextOf : ByteArray := prog_14_method_54_code
def yX12_nextOf : MethodName := ⟨RX12, "nextOf", "(II)I"⟩
abbrev cX12_isSent : ByteArray := prog_14_method_55_code
def yX12_isSent : MethodName := ⟨RX12, "isSent", "(III)Z"⟩
abbrev cX12_send : ByteArray := prog_14_method_56_code
def yX12_send : MethodName := ⟨RX12, "send", "(III)I"⟩
abbrev cX12_atBridge : ByteArray := prog_14_method_57_code
def yX12_atBridge : MethodName := ⟨RX12, "atBridge", "(I)V"⟩
abbrev cX12_seenBy : ByteArray := prog_14_method_58_code
def yX12_seenBy : MethodName := ⟨RX12, "seenBy", "(II)I"⟩
abbrev cX12_atRouter : ByteArray := prog_14_method_59_code
def yX12_atRouter : MethodName := ⟨RX12, "atRoute\x72", "(I)V"⟩
abbrev cX12_arrives : ByteArray := prog_14_method_60_code
def yX12_arrives : MethodName := ⟨RX12, "arrives", "(I)V"⟩
abbrev cX12_goesOn : ByteArray := prog_14_method_61_code
def yX12_goesOn : MethodName := ⟨RX12, "goesOn", "()V"⟩
abbrev cX12_tick : ByteArray := prog_14_method_62_code
def yX12_tick : MethodName := ⟨RX12, "tick", "(I)I"⟩
abbrev cX12_isPacket : ByteArray := prog_14_method_63_code
def yX12_isPacket : MethodName := ⟨RX12, "isPacket", "(I)Z"⟩
abbrev cX12_fate : ByteArray := prog_14_method_64_code
def yX12_fate : MethodName := ⟨RX12, "fate", "(I)I"⟩
abbrev cX12_where : ByteArray := prog_14_method_65_code
def yX12_where : MethodName := ⟨RX12, "where", "(I)I"⟩
abbrev cX12_source : ByteArray := prog_14_method_66_code
def yX12_source : MethodName := ⟨RX12, "source", "(I)I"⟩
abbrev cX12_frames : ByteArray := prog_14_method_67_code
def yX12_frames : MethodName := ⟨RX12, "frames", "()I"⟩
abbrev cX12_noted : ByteArray := prog_14_method_68_code
def yX12_noted : MethodName := ⟨RX12, "noted", "(II)I"⟩
abbrev cX12_learnt : ByteArray := prog_14_method_69_code
def yX12_learnt : MethodName := ⟨RX12, "learnt", "(III)I"⟩
abbrev cX12_settles : ByteArray := prog_14_method_70_code
def yX12_settles : MethodName := ⟨RX12, "settles", "()V"⟩
abbrev cX12_follows : ByteArray := prog_14_method_71_code
def yX12_follows : MethodName := ⟨RX12, "follows", "(III)I"⟩
abbrev cX12_reaches : ByteArray := prog_14_method_72_code
def yX12_reaches : MethodName := ⟨RX12, "reaches", "(II)I"⟩
abbrev cX12_reach : ByteArray := prog_14_method_73_code
def yX12_reach : MethodName := ⟨RX12, "reach", "(II)I"⟩
abbrev cX12_reachAnew : ByteArray := prog_14_method_74_code
def yX12_reachAnew : MethodName := ⟨RX12, "reachAnew", "(II)I"⟩
abbrev cX12_proved : ByteArray := prog_14_method_75_code
def yX12_proved : MethodName := ⟨RX12, "proved", "(III)I"⟩
abbrev cX12_way : ByteArray := prog_14_method_76_code
def yX12_way : MethodName := ⟨RX12, "way", "(IIII)I"⟩
def RJx145de : String := "java/io/Serializable"
def TJx145de : u_T := fun k => match k with
  | _ => ("", "", "", false)
def tyJx145de : Nat → FieldType := fun k => match k with
  | _ => .int
theorem nmJx145de : ∀ a, a < 0 → ∀ b, b < 0 → a ≠ b → (TJx145de a).2.1 ≠ (TJx145de b).2.1 := by decide +kernel
theorem tyJx145de_ok : ∀ k, k < 0 → parseFieldDescriptor (TJx145de k).2.2.1 = some (tyJx145de k) := by decide +kernel
def RJ13 : String := "java/lang/Long"
def TJ13 : u_T := fun k => match k with
  | _ => ("", "", "", false)
def tyJ13 : Nat → FieldType := fun k => match k with
  | _ => .int
theorem nmJ13 : ∀ a, a < 0 → ∀ b, b < 0 → a ≠ b → (TJ13 a).2.1 ≠ (TJ13 b).2.1 := by decide +kernel
theorem tyJ13_ok : ∀ k, k < 0 → parseFieldDescriptor (TJ13 k).2.2.1 = some (tyJ13 k) := by decide +kernel
abbrev cJ13_bitCount_95d88 : ByteArray := prog_19_method_50_code
def yJ13_bitCount_95d88 : MethodName := ⟨RJ13, "bitCount", "(J)I"⟩
def RJ9 : String := "java/lang/Math"
def TJ9 : u_T := fun k => match k with
  | _ => ("", "", "", false)
def tyJ9 : Nat → FieldType := fun k => match k with
  | _ => .int
theorem nmJ9 : ∀ a, a < 0 → ∀ b, b < 0 → a ≠ b → (TJ9 a).2.1 ≠ (TJ9 b).2.1 := by decide +kernel
theorem tyJ9_ok : ∀ k, k < 0 → parseFieldDescriptor (TJ9 k).2.2.1 = some (tyJ9 k) := by decide +kernel
abbrev cJ9_max_7cf53 : ByteArray := prog_20_method_65_code
def yJ9_max_7cf53 : MethodName := ⟨RJ9, "max", "(II)I"⟩
def RJ0 : String := "java/lang/String"
def TJ0 : u_T := fun k => match k with
  | _ => ("", "", "", false)
def tyJ0 : Nat → FieldType := fun k => match k with
  | _ => .int
theorem nmJ0 : ∀ a, a < 0 → ∀ b, b < 0 → a ≠ b → (TJ0 a).2.1 ≠ (TJ0 b).2.1 := by decide +kernel
theorem tyJ0_ok : ∀ k, k < 0 → parseFieldDescriptor (TJ0 k).2.2.1 = some (tyJ0 k) := by decide +kernel
def RJ7 : String := "java/util/Arrays"
def TJ7 : u_T := fun k => match k with
  | _ => ("", "", "", false)
def tyJ7 : Nat → FieldType := fun k => match k with
  | _ => .int
theorem nmJ7 : ∀ a, a < 0 → ∀ b, b < 0 → a ≠ b → (TJ7 a).2.1 ≠ (TJ7 b).2.1 := by decide +kernel
theorem tyJ7_ok : ∀ k, k < 0 → parseFieldDescriptor (TJ7 k).2.2.1 = some (tyJ7 k) := by decide +kernel
abbrev cJ7_fill_d0a16 : ByteArray := prog_24_method_101_code
def yJ7_fill_d0a16 : MethodName := ⟨RJ7, "fill", "([JJ)V"⟩
abbrev cJ7_fill_53178 : ByteArray := prog_24_method_103_code
def yJ7_fill_53178 : MethodName := ⟨RJ7, "fill", "([II)V"⟩
def RL : String := "DrystoneSimnetLaw"
abbrev cL_box : ByteArray := method_3_code
def yL_box : MethodName := ⟨RL, "box", "(LDrystoneSimnet;I[J)I"⟩
abbrev cL_cable : ByteArray := method_4_code
def yL_cable : MethodName := ⟨RL, "cable", "(LDrystoneSimnet;II[J)I"⟩
abbrev cL_turn : ByteArray := method_5_code
def yL_turn : MethodName := ⟨RL, "turn", "(LDrystoneSimnet;I[J)I"⟩
abbrev cL_isBlocked : ByteArray := method_6_code
def yL_isBlocked : MethodName := ⟨RL, "isBlocked", "(LDrystoneSimnet;I[J)I"⟩
abbrev cL_net : ByteArray := method_7_code
def yL_net : MethodName := ⟨RL, "net", "(LDrystoneSimnet;II[J)I"⟩
abbrev cL_sees : ByteArray := method_8_code
def yL_sees : MethodName := ⟨RL, "sees", "(LDrystoneSimnet;II[J)I"⟩
abbrev cL_address : ByteArray := method_9_code
def yL_address : MethodName := ⟨RL, "address", "(LDrystoneSimnet;III[J)I"⟩
abbrev cL_gateway : ByteArray := method_10_code
def yL_gateway : MethodName := ⟨RL, "gateway", "(LDrystoneSimnet;II[J)I"⟩
abbrev cL_route : ByteArray := method_11_code
def yL_route : MethodName := ⟨RL, "route", "(LDrystoneSimnet;IIII[J)I"⟩
abbrev cL_rule : ByteArray := method_12_code
def yL_rule : MethodName := ⟨RL, "rule", "(LDrystoneSimnet;IIIIIIZ[J)I"⟩
abbrev cL_watch : ByteArray := method_13_code
def yL_watch : MethodName := ⟨RL, "watch", "(LDrystoneSimnet;IZ[J)I"⟩
abbrev cL_pool : ByteArray := method_14_code
def yL_pool : MethodName := ⟨RL, "pool", "(LDrystoneSimnet;III[J)I"⟩
abbrev cL_send : ByteArray := method_15_code
def yL_send : MethodName := ⟨RL, "send", "(LDrystoneSimnet;III[J)I"⟩
abbrev cL_tick : ByteArray := method_16_code
def yL_tick : MethodName := ⟨RL, "tick", "(LDrystoneSimnet;I[J)I"⟩
abbrev cL_fate : ByteArray := method_17_code
def yL_fate : MethodName := ⟨RL, "fate", "(LDrystoneSimnet;I[J)I"⟩
abbrev cL_where : ByteArray := method_18_code
def yL_where : MethodName := ⟨RL, "where", "(LDrystoneSimnet;I[J)I"⟩
abbrev cL_source : ByteArray := method_19_code
def yL_source : MethodName := ⟨RL, "source", "(LDrystoneSimnet;I[J)I"⟩
abbrev cL_noted : ByteArray := method_20_code
def yL_noted : MethodName := ⟨RL, "noted", "(LDrystoneSimnet;II[J)I"⟩
abbrev cL_learnt : ByteArray := method_21_code
def yL_learnt : MethodName := ⟨RL, "learnt", "(LDrystoneSimnet;III[J)I"⟩
abbrev cL_reach : ByteArray := method_22_code
def yL_reach : MethodName := ⟨RL, "reach", "(LDrystoneSimnet;II[J)I"⟩
abbrev cL_reachAnew : ByteArray := method_23_code
def yL_reachAnew : MethodName := ⟨RL, "reachAnew", "(LDrystoneSimnet;II[J)I"⟩
abbrev cL_proved : ByteArray := method_24_code
def yL_proved : MethodName := ⟨RL, "proved", "(LDrystoneSimnet;III[J)I"⟩
abbrev cL_way : ByteArray := method_25_code
def yL_way : MethodName := ⟨RL, "way", "(LDrystoneSimnet;IIII[J)I"⟩
abbrev cL_law : ByteArray := code
def yL_law : MethodName := ⟨RL, "law", "([I)Z"⟩
abbrev vwCl : List vw_C := [(RX0, TX0, 4), (RX1, TX1, 8), (RX2, TX2, 3), (RX3, TX3, 4), (RX4, TX4, 17), (RX5, TX5, 14), (RX6, TX6, 9), (RX7, TX7, 6), (RX8, TX8, 3), (RX9, TX9, 19), (RX10, TX10, 11), (RX11, TX11, 7), (RX12, TX12, 47)]
end
section
/-! the small kit of this claim: one list of words for all methods; facts of the state that all carry; reads that change nothing -/
/-- the good words of the tables: every method's list is its own code and these -/
def gU : List Cond := lw_tbl.filter goodWord
theorem gm {w : Cond} {i : Nat} (h : tables_1[i]? = some w) (g : goodWord w = true) : w ∈ gU := List.mem_filter.mpr ⟨List.mem_append_right _ (List.mem_of_getElem? h), g⟩
theorem gp {q : MethodName × Nat} {i : Nat} (h : lw_privs[i]? = some q) (g : goodWord (Cond.selects q.1.cls q.1 q.1) = true) : Cond.selects q.1.cls q.1 q.1 ∈ gU := List.mem_filter.mpr ⟨List.mem_append_left _ (List.mem_map.mpr ⟨q, List.mem_of_getElem? h, rfl⟩), g⟩
theorem gU_in {w : Cond} (h : w ∈ gU) : w ∈ lw_tbl := (List.mem_filter.mp h).1
theorem gU_good {w : Cond} (h : w ∈ gU) : (w.onTables && w.keeps) = true ∨ ∃ ty, w = .arrayClass ty := good_of_word (List.mem_filter.mp h).2
theorem gW {ws : List Cond} (h : ∀ w ∈ ws, w ∈ gU) : GoodIn gU ws := fun w hw => ⟨h w hw, gU_good (h w hw)⟩
theorem gC {w : Cond} (h : w ∈ gU) : GoodIn gU (w :: gU) := gW fun _ hw => (List.mem_cons.mp hw).elim (fun e => e ▸ h) id
theorem gV {own C : String} {k : Nat} {y : MethodName} {w : Cond} (h1 : Cond.methodLink own k y ∈ gU) (h2 : Cond.instanceMethod y ∈ gU) (h3 : Cond.selects C y y ∈ gU) (h4 : Cond.initialized C ∈ gU) (h5 : w ∈ gU) : GoodIn gU (wsV own k C y (w :: gU)) := gW fun z hz => by
  unfold wsV at hz
  rcases List.mem_append.mp hz with hz | hz
  · simp only [List.mem_cons, List.not_mem_nil, or_false] at hz
    rcases hz with rfl | rfl | rfl | rfl <;> assumption
  · exact (List.mem_cons.mp hz).elim (fun e => e ▸ h5) id
theorem gS {own : String} {k : Nat} {y : MethodName} {w : Cond} (h1 : Cond.methodLink own k y ∈ gU) (h2 : Cond.static y ∈ gU) (h4 : Cond.initialized y.cls ∈ gU) (h5 : w ∈ gU) : GoodIn gU (va_wsS own k y (w :: gU)) := gW fun z hz => by
  unfold va_wsS at hz
  rcases List.mem_append.mp hz with hz | hz
  · simp only [List.mem_cons, List.not_mem_nil, or_false] at hz
    rcases hz with rfl | rfl | rfl <;> assumption
  · exact (List.mem_cons.mp hz).elim (fun e => e ▸ h5) id
/-- the words that a table's link may change: carried as facts -/
def gN : List Cond := [Cond.fieldLinkNest RX11 232 "DrystoneSimnet$Wiring" "cables" "I" RX11, Cond.fieldLinkNest RX11 237 "DrystoneSimnet$Traffic" "packets" "I" RX11, Cond.fieldLinkNest RX11 149 "DrystoneSimnet$Traffic" "now" "I" RX11, Cond.fieldLinkNest RX11 187 "DrystoneSimnet$Traffic" "onCables" "I" RX11, Cond.fieldLinkNest RX6 63 "DrystoneSimnet$Wiring" "boxes" "I" RX11, Cond.methodLinkNest RX10 50 yX11_boxOf RX11, Cond.methodLinkNest RX10 57 yX11_ownNumber RX11, Cond.methodLinkNest RX9 44 yX1_init RX11, Cond.castable "java/lang/IndexOutOfBoundsException" "java/lang/IndexOutOfBoundsException", Cond.castable "java/lang/IllegalArgumentException" "java/lang/IllegalArgumentException", Cond.declares ⟨"java/lang/RuntimeException", "<init>", "(Ljava/lang/String;)V"⟩, Cond.declares ⟨"java/lang/Exception", "<init>", "(Ljava/lang/String;)V"⟩, Cond.declares ⟨"java/lang/Throwable", "<init>", "(Ljava/lang/String;)V"⟩]
theorem n_0 : Cond.fieldLinkNest RX11 232 "DrystoneSimnet$Wiring" "cables" "I" RX11 ∈ gN := List.mem_of_getElem? (i := 0) rfl
theorem n_1 : Cond.fieldLinkNest RX11 237 "DrystoneSimnet$Traffic" "packets" "I" RX11 ∈ gN := List.mem_of_getElem? (i := 1) rfl
theorem n_2 : Cond.fieldLinkNest RX11 149 "DrystoneSimnet$Traffic" "now" "I" RX11 ∈ gN := List.mem_of_getElem? (i := 2) rfl
theorem n_3 : Cond.fieldLinkNest RX11 187 "DrystoneSimnet$Traffic" "onCables" "I" RX11 ∈ gN := List.mem_of_getElem? (i := 3) rfl
theorem n_4 : Cond.fieldLinkNest RX6 63 "DrystoneSimnet$Wiring" "boxes" "I" RX11 ∈ gN := List.mem_of_getElem? (i := 4) rfl
theorem n_5 : Cond.methodLinkNest RX10 50 yX11_boxOf RX11 ∈ gN := List.mem_of_getElem? (i := 5) rfl
theorem n_6 : Cond.methodLinkNest RX10 57 yX11_ownNumber RX11 ∈ gN := List.mem_of_getElem? (i := 6) rfl
theorem n_7 : Cond.methodLinkNest RX9 44 yX1_init RX11 ∈ gN := List.mem_of_getElem? (i := 7) rfl
theorem n_8 : Cond.castable "java/lang/IndexOutOfBoundsException" "java/lang/IndexOutOfBoundsException" ∈ gN := List.mem_of_getElem? (i := 8) rfl
theorem n_9 : Cond.castable "java/lang/IllegalArgumentException" "java/lang/IllegalArgumentException" ∈ gN := List.mem_of_getElem? (i := 9) rfl
theorem gN_ot : ∀ w ∈ gN, w.onTables = true := by decide +kernel
def gEnv (U : State) : Prop := (∀ w ∈ gN, va_Nw w U) ∧ va_AO RX5 U ∧ va_AO RX3 U ∧ va_AO RX1 U ∧ va_AOA .int U ∧ (∃ a, vk_R RX11 225 "no such box" a U) ∧ (∃ a, vk_R RX11 230 "no such port" a U) ∧ (∃ a, vk_R RX11 235 "no such cable" a U) ∧ (∃ a, vk_R RX11 240 "no such packet" a U) ∧ (∃ a, vk_R RX11 244 "out of range, or of a kind that is not meant" a U)
theorem va_AOA.moved {ty : FieldType} {u U : State} (hvm : u.vm.Alike U.vm) (h : va_AOA ty u) : va_AOA ty U := arrayOver_alikeB hvm h
theorem gEnv.same {u U : State} (h : U.vm = u.vm) (hE : gEnv u) : gEnv U := by
  obtain ⟨h0, h1, h2, h3, h4, ⟨a5, h5⟩, ⟨a6, h6⟩, ⟨a7, h7⟩, ⟨a8, h8⟩, ⟨a9, h9⟩⟩ := hE
  have hv : u.vm.Alike U.vm := h ▸ Vm.Alike.refl _
  exact ⟨fun w hw => va_Nw.same (gN_ot w hw) h.symm (h0 w hw), h1.moved hv, h2.moved hv, h3.moved hv, h4.moved hv, ⟨a5, h5.same h⟩, ⟨a6, h6.same h⟩, ⟨a7, h7.same h⟩, ⟨a8, h8.same h⟩, ⟨a9, h9.same h⟩⟩
theorem gEnv.warm {s U : State} (hW : s.WarmedH U.vm) (hE : gEnv s) : gEnv U := by
  obtain ⟨h0, h1, h2, h3, h4, ⟨a5, h5⟩, ⟨a6, h6⟩, ⟨a7, h7⟩, ⟨a8, h8⟩, ⟨a9, h9⟩⟩ := hE
  have hv := hW.alike
  refine ⟨?_, h1.moved hv, h2.moved hv, h3.moved hv, h4.moved hv, ⟨a5, h5.warm hW⟩, ⟨a6, h6.warm hW⟩, ⟨a7, h7.warm hW⟩, ⟨a8, h8.warm hW⟩, ⟨a9, h9.warm hW⟩⟩
  intro w hw
  have hz := h0 w hw
  simp only [gN, List.mem_cons, List.not_mem_nil, or_false] at hw
  rcases hw with rfl | rfl | rfl | rfl | rfl | rfl | rfl | rfl | rfl | rfl | rfl | rfl | rfl
  · exact va_Nw.warmF hW hz
  · exact va_Nw.warmF hW hz
  · exact va_Nw.warmF hW hz
  · exact va_Nw.warmF hW hz
  · exact va_Nw.warmF hW hz
  · exact va_Nw.warmM hW hz
  · exact va_Nw.warmM hW hz
  · exact va_Nw.warmM hW hz
  · exact va_Nw.warmC hW hz
  · exact va_Nw.warmC hW hz
  · exact va_Nw.warmD hW hz
  · exact va_Nw.warmD hW hz
  · exact va_Nw.warmD hW hz
/-- Throwable's two statics, apart from what a method may change -/
def gZ (A : Nat → Prop) (U : State) : Prop := vx_Zq Bundle.tN "UNASSIGNED_STACK" Bundle.steD A U U.heap ∧ vx_Zq Bundle.tN "SUPPRESSED_SENTINEL" Bundle.listD A U U.heap
theorem gZ.blind {A : Nat → Prop} {a : Array Value} {U : State} {g : JFrame} {mk : MethodId} (h : gZ A U) : gZ A (U.calling g mk a) := ⟨vx_Zq.moved (u := U) (U := U.calling g mk a) (Vm.Alike.refl U.vm) h.1, vx_Zq.moved (u := U) (U := U.calling g mk a) (Vm.Alike.refl U.vm) h.2⟩
theorem gZ.call {A0 A1 : Nat → Prop} {s U : State} {H : Heap} {locs : List Loc} (hZ : gZ A0 s) (hS : va_S A0 s.heap H locs) (hU : U.heap = H) (hW : s.WarmedH U.vm) (hA : ∀ q, A1 q → A0 q) : gZ A1 U := by
  unfold gZ
  rw [hU]
  exact ⟨((vx_Zq.moved hW.alike hZ.1).kept (fun a h1 h2 => hS.2.1 a h1 h2)).narrow hA, ((vx_Zq.moved hW.alike hZ.2).kept (fun a h1 h2 => hS.2.1 a h1 h2)).narrow hA⟩
/-- a method's start: the arguments, the heap's size, the world, the tables' classes, the facts -/
def gP (dC : Nat → ClassId) (dI : Nat → Nat → Nat) (sz : Nat) (ws : va_W) (tys : List (ClassId × FieldType)) (av : List Value) : Array Value → State → Prop := va_Pc av (fun U => U.heap.size = sz ∧ va_P (dC, dI) vwCl ws U.heap ∧ va_K (dC, dI) vwCl tys U ∧ va_D (fun _ => True) ws ∧ gEnv U)
theorem gP_blind {dC : Nat → ClassId} {dI : Nat → Nat → Nat} {sz : Nat} {ws : va_W} {tys : List (ClassId × FieldType)} {av : List Value} : FrameBlind (gP dC dI sz ws tys av) := fun a U g mk q => by
  obtain ⟨q0, q1, qP, qK, qD, qE⟩ := q
  exact ⟨q0, q1, qP, va_K.moved (u := U) (U := U.calling g mk a) (Vm.Alike.refl U.vm) qK, qD, gEnv.same (u := U) rfl qE⟩
theorem gP_call {dC : Nat → ClassId} {dI : Nat → Nat → Nat} {ws : va_W} {tys : List (ClassId × FieldType)} {av : List Value} {A : Nat → Prop} {s : State} {H : Heap} (hP : va_P (dC, dI) vwCl ws H) (hK : va_K (dC, dI) vwCl tys s) (hD : va_D A ws) (hE : gEnv s) : ∀ U : State, U.heap = H → s.WarmedH U.vm → gP dC dI H.size ws tys av av.toArray U := fun U hU hW => ⟨rfl, by rw [hU], by rw [hU]; exact hP, va_K.moved hW.alike hK, hD.weaken (fun _ _ _ _ => trivial), hE.warm hW⟩
/-- .. and the statics, of a method that may throw -/
def gPZ (dC : Nat → ClassId) (dI : Nat → Nat → Nat) (sz : Nat) (ws : va_W) (tys : List (ClassId × FieldType)) (A : Nat → Prop) (av : List Value) : Array Value → State → Prop := va_Pc av (fun U => U.heap.size = sz ∧ va_P (dC, dI) vwCl ws U.heap ∧ va_K (dC, dI) vwCl tys U ∧ va_D (fun _ => True) ws ∧ gEnv U ∧ gZ A U)
theorem gPZ_blind {dC : Nat → ClassId} {dI : Nat → Nat → Nat} {sz : Nat} {ws : va_W} {tys : List (ClassId × FieldType)} {A : Nat → Prop} {av : List Value} : FrameBlind (gPZ dC dI sz ws tys A av) := fun a U g mk q => by
  obtain ⟨q0, q1, qP, qK, qD, qE, qZ⟩ := q
  exact ⟨q0, q1, qP, va_K.moved (u := U) (U := U.calling g mk a) (Vm.Alike.refl U.vm) qK, qD, gEnv.same (u := U) rfl qE, qZ.blind⟩
theorem gPZ_call {dC : Nat → ClassId} {dI : Nat → Nat → Nat} {ws : va_W} {tys : List (ClassId × FieldType)} {av : List Value} {A A0 A1 : Nat → Prop} {s : State} {H : Heap} {locs : List Loc} (hP : va_P (dC, dI) vwCl ws H) (hK : va_K (dC, dI) vwCl tys s) (hD : va_D A ws) (hE : gEnv s) (hZ : gZ A0 s) (hS : va_S A0 s.heap H locs) (hA : ∀ q, A1 q → A0 q) : ∀ U : State, U.heap = H → s.WarmedH U.vm → gPZ dC dI H.size ws tys A1 av av.toArray U := fun U hU hW => ⟨rfl, by rw [hU], by rw [hU]; exact hP, va_K.moved hW.alike hK, hD.weaken (fun _ _ _ _ => trivial), hE.warm hW, hZ.call hS hU hW hA⟩
/-- a callee that changes no old cell -/
theorem roF {A0 : Nat → Prop} {H0 H : Heap} {locs : List Loc} (hS : va_S A0 H0 H locs) (hA : ∀ q, H0.size ≤ q → A0 q) : ∀ q, va_A [] H.size q → A0 q := by
  rintro q (⟨k, e, h⟩ | h)
  · simp at h
  · exact hA q (Nat.le_trans hS.1 h)
theorem roP {D : va_G} {cl : List vw_C} {ws : va_W} {H H1 : Heap} (hP : va_P D cl ws H) (hk : ∀ q : Nat, q < H.size → ¬ va_A [] H.size q → H1[q]? = H[q]?) : va_P D cl ws H1 := hP.kept (fun k q hq => hk q.1 ((hP k q hq).lt) (by
  rintro (⟨k2, e, h⟩ | h)
  · simp at h
  · exact absurd ((hP k q hq).lt) (Nat.not_lt.mpr h)))
/-- a loop's counter against its bound -/
theorem lpE {x : Int32} {i N : Nat} (ex : x = nI i) (hN : N < 2 ^ 31) (hi : i ≤ N) (h : nI N ≤ x) : i = N := by
  rcases Nat.lt_or_ge i N with q | q
  · exact absurd (ex ▸ h) (nI_ge q hN)
  · omega
theorem lpL {x : Int32} {i N : Nat} (ex : x = nI i) (hi : i ≤ N) (hN : N < 2 ^ 31) (h : ¬ nI N ≤ x) : i < N := by
  rcases Nat.lt_or_ge i N with q | q
  · exact q
  · exact absurd (by rw [ex]; exact nI_le q (by omega)) h
theorem gIn {C : String} {T : u_T} {N : Nat} (ps : List Nat) (h : u_ws C T N = ps.filterMap (fun i => tables_1[i]?)) (g : (u_ws C T N).all goodWord = true) : ∀ w ∈ u_ws C T N, w ∈ gU := fun w hw => by
  have h1 := List.all_eq_true.mp g w hw
  rw [h] at hw
  obtain ⟨i, -, hi⟩ := List.mem_filterMap.mp hw
  exact gm hi h1
theorem i_nlt {a b : Int32} (h : ¬ a < b) : b ≤ a := by
  rw [Int32.lt_iff_toInt_lt] at h
  rw [Int32.le_iff_toInt_le]
  omega
theorem i_nle {a b : Int32} (h : ¬ a ≤ b) : b < a := by
  rw [Int32.le_iff_toInt_le] at h
  rw [Int32.lt_iff_toInt_lt]
  omega
theorem i_lt_nle {a b : Int32} (h : a < b) : ¬ b ≤ a := by
  rw [Int32.lt_iff_toInt_lt] at h
  rw [Int32.le_iff_toInt_le]
  omega
theorem own_ge {p : Int32} (h : 0 ≤ p) : 0 ≤ p - p / 4 * 4 := by
  obtain ⟨j, hj, rfl⟩ := nI_of (x := p) (fun q => i_lt_nle q h)
  have e : nI j - nI j / nI 4 * nI 4 = nI (j % 4) := pk_rem hj (by decide) (by decide)
  have e2 : nI j - nI j / 4 * 4 = nI (j % 4) := e
  rw [e2]
  exact nI_pos' (by omega)
theorem thrI0 : ∀ w ∈ (vx_atS RX11 215 "java/lang/IndexOutOfBoundsException" ["java/lang/RuntimeException", "java/lang/Exception"]).filter goodWord, w ∈ gU := fun w hw => List.mem_filter.mpr ⟨(show ∀ w ∈ (vx_atS RX11 215 "java/lang/IndexOutOfBoundsException" ["java/lang/RuntimeException", "java/lang/Exception"]).filter goodWord, w ∈ lw_tbl by decide +kernel) w hw, (List.mem_filter.mp hw).2⟩
theorem thrI1 : ∀ w ∈ (vx_atS RX11 215 "java/lang/IndexOutOfBoundsException" ["java/lang/RuntimeException", "java/lang/Exception"]).filter (fun w => !goodWord w), w ∈ gN := by decide +kernel
theorem thrI2 : ∀ w ∈ Cond.classLink RX11 211 "java/lang/IndexOutOfBoundsException" :: Cond.initialized "java/lang/IndexOutOfBoundsException" :: vx_atS RX11 215 "java/lang/IndexOutOfBoundsException" ["java/lang/RuntimeException", "java/lang/Exception"], vx_ot w = true := by decide +kernel
theorem thrA0 : ∀ w ∈ (vx_atS RX11 246 "java/lang/IllegalArgumentException" ["java/lang/RuntimeException", "java/lang/Exception"]).filter goodWord, w ∈ gU := fun w hw => List.mem_filter.mpr ⟨(show ∀ w ∈ (vx_atS RX11 246 "java/lang/IllegalArgumentException" ["java/lang/RuntimeException", "java/lang/Exception"]).filter goodWord, w ∈ lw_tbl by decide +kernel) w hw, (List.mem_filter.mp hw).2⟩
theorem thrA1 : ∀ w ∈ (vx_atS RX11 246 "java/lang/IllegalArgumentException" ["java/lang/RuntimeException", "java/lang/Exception"]).filter (fun w => !goodWord w), w ∈ gN := by decide +kernel
theorem thrA2 : ∀ w ∈ Cond.classLink RX11 242 "java/lang/IllegalArgumentException" :: Cond.initialized "java/lang/IllegalArgumentException" :: vx_atS RX11 246 "java/lang/IllegalArgumentException" ["java/lang/RuntimeException", "java/lang/Exception"], vx_ot w = true := by decide +kernel
def gIs (n lo hi : Int32) : Int32 := if lo ≤ n ∧ n ≤ hi then 1 else 0
theorem gIs_no (n : Int32) : gIs n 0 (-1) = 0 := if_neg (fun q => by
  have h1 := q.1
  have h2 := q.2
  rw [Int32.le_iff_toInt_le] at h1 h2
  rw [show (0 : Int32).toInt = 0 from by decide] at h1
  rw [show (-1 : Int32).toInt = -1 from by decide] at h2
  omega)
def gCan (n : Int32) : Int32 := if n = 0 then 1 else 0
end
section
/-! the shapes of the objects that the claim speaks of -/
def oX (w : Nat) (sg : Nat) (ro : Nat) (tr : Nat) (g : Nat → Nat) : List Value := [.ref w, .ref sg, .ref (g 0), .ref (g 1), .ref ro, .ref tr, .ref (g 2)]
def oW (kd : Nat) (g : Nat → Nat) (bx : Int32) (cb : Int32) : List Value := [.int bx, .int cb, .ref kd, .ref (g 0), .ref (g 1), .ref (g 2), .ref (g 3), .ref (g 4), .ref (g 5), .ref (g 6), .ref (g 7)]
def oS (w : Nat) (sn : Nat) (g : Nat → Nat) (fr : Int32) : List Value := [.ref w, .ref (g 0), .ref sn, .int fr, .ref (g 1), .ref (g 2)]
def oR (w : Nat) (sg : Nat) (cu : Nat) (sp : Nat) (g : Nat → Nat) (st : Int32) (sf : Int32) : List Value := [.ref w, .ref sg, .ref (g 0), .ref (g 1), .ref cu, .ref (g 2), .ref sp, .int st, .int sf]
def oB (cn : Nat) (g : Nat → Nat) : List Value := [.ref (g 0), .ref (g 1), .ref cn]
def oT (w : Nat) (sg : Nat) (ro : Nat) (g : Nat → Nat) (nw : Int32) (fi : Int32) (on : Int32) (pk : Int32) : List Value := [.ref w, .ref sg, .ref (g 0), .ref (g 1), .ref ro, .ref (g 2), .int nw, .ref (g 3), .int fi, .int on, .ref (g 4), .int pk, .ref (g 5), .ref (g 6), .ref (g 7), .ref (g 8), .ref (g 9), .ref (g 10), .ref (g 11)]
def mM (kd : Nat) (gw : Nat) (fa : Nat) (g : Nat → Nat) (bx : Int32) (cb : Int32) (tk : Int32) (fm : Int32) (pk : Int32) (vby : Int32) (vto : Int32) (vpassed : Int32) (th : Int32) : List Value := [.int bx, .ref kd, .int cb, .ref (g 0), .ref (g 1), .ref (g 2), .ref (g 3), .ref fa, .ref (g 4), .ref (g 5), .ref (g 6), .ref (g 7), .ref gw, .ref (g 8), .ref (g 9), .ref (g 10), .ref (g 11), .ref (g 12), .ref (g 13), .ref (g 14), .ref (g 15), .ref (g 16), .ref (g 17), .ref (g 18), .ref (g 19), .ref (g 20), .ref (g 21), .ref (g 22), .ref (g 23), .ref (g 24), .ref (g 25), .int tk, .ref (g 26), .ref (g 27), .int fm, .ref (g 28), .ref (g 29), .int pk, .ref (g 30), .ref (g 31), .ref (g 32), .ref (g 33), .int vby, .int vto, .int vpassed, .ref (g 34), .int th]
end
section
theorem dX10_hasBox_0 : decode cX10_hasBox 0 = .ok (.iload_n 1, 1) := by decide +kernel
theorem dX10_hasBox_1 : decode cX10_hasBox 1 = .ok (.ifCond .lt 15, 3) := by decide +kernel
theorem dX10_hasBox_4 : decode cX10_hasBox 4 = .ok (.iload_n 1, 1) := by decide +kernel
theorem dX10_hasBox_5 : decode cX10_hasBox 5 = .ok (.aload_n 0, 1) := by decide +kernel
theorem dX10_hasBox_6 : decode cX10_hasBox 6 = .ok (.getfield 46, 3) := by decide +kernel
theorem dX10_hasBox_9 : decode cX10_hasBox 9 = .ok (.if_icmp .ge 7, 3) := by decide +kernel
theorem dX10_hasBox_16 : decode cX10_hasBox 16 = .ok (.iconst 0, 1) := by decide +kernel
theorem dX10_hasBox_17 : decode cX10_hasBox 17 = .ok (.ireturn, 1) := by decide +kernel
theorem dX10_hasPort_0 : decode cX10_hasPort 0 = .ok (.iload_n 1, 1) := by decide +kernel
theorem dX10_hasPort_1 : decode cX10_hasPort 1 = .ok (.ifCond .ge 5, 3) := by decide +kernel
theorem dX10_hasPort_4 : decode cX10_hasPort 4 = .ok (.iconst 0, 1) := by decide +kernel
theorem dX10_hasPort_5 : decode cX10_hasPort 5 = .ok (.ireturn, 1) := by decide +kernel
theorem dX10_hasPort_6 : decode cX10_hasPort 6 = .ok (.aload_n 0, 1) := by decide +kernel
theorem dX10_hasPort_7 : decode cX10_hasPort 7 = .ok (.iload_n 1, 1) := by decide +kernel
theorem dX10_hasPort_8 : decode cX10_hasPort 8 = .ok (.invokestatic 50, 3) := by decide +kernel
theorem dX10_hasPort_11 : decode cX10_hasPort 11 = .ok (.invokevirtual 54, 3) := by decide +kernel
theorem dX10_hasPort_14 : decode cX10_hasPort 14 = .ok (.istore_n 2, 1) := by decide +kernel
theorem dX10_hasPort_15 : decode cX10_hasPort 15 = .ok (.iload_n 2, 1) := by decide +kernel
theorem dX10_hasPort_16 : decode cX10_hasPort 16 = .ok (.ifCond .ne 7, 3) := by decide +kernel
theorem dX10_hasPort_23 : decode cX10_hasPort 23 = .ok (.iload_n 2, 1) := by decide +kernel
theorem dX10_hasPort_24 : decode cX10_hasPort 24 = .ok (.iconst 2, 1) := by decide +kernel
theorem dX10_hasPort_25 : decode cX10_hasPort 25 = .ok (.if_icmp .ne 7, 3) := by decide +kernel
theorem dX10_hasPort_32 : decode cX10_hasPort 32 = .ok (.iload_n 2, 1) := by decide +kernel
theorem dX10_hasPort_33 : decode cX10_hasPort 33 = .ok (.iconst 1, 1) := by decide +kernel
theorem dX10_hasPort_34 : decode cX10_hasPort 34 = .ok (.if_icmp .ne 7, 3) := by decide +kernel
theorem dX10_hasPort_41 : decode cX10_hasPort 41 = .ok (.iconst 0, 1) := by decide +kernel
theorem dX10_hasPort_42 : decode cX10_hasPort 42 = .ok (.istore_n 3, 1) := by decide +kernel
theorem dX10_hasPort_43 : decode cX10_hasPort 43 = .ok (.iload_n 1, 1) := by decide +kernel
theorem dX10_hasPort_44 : decode cX10_hasPort 44 = .ok (.invokestatic 57, 3) := by decide +kernel
theorem dX10_hasPort_47 : decode cX10_hasPort 47 = .ok (.iload_n 3, 1) := by decide +kernel
theorem dX10_hasPort_48 : decode cX10_hasPort 48 = .ok (.if_icmp .ge 7, 3) := by decide +kernel
theorem dX10_hasPort_55 : decode cX10_hasPort 55 = .ok (.iconst 0, 1) := by decide +kernel
theorem dX10_hasPort_56 : decode cX10_hasPort 56 = .ok (.ireturn, 1) := by decide +kernel
theorem dX10_isStation_0 : decode cX10_isStation 0 = .ok (.aload_n 0, 1) := by decide +kernel
theorem dX10_isStation_1 : decode cX10_isStation 1 = .ok (.iload_n 1, 1) := by decide +kernel
theorem dX10_isStation_2 : decode cX10_isStation 2 = .ok (.invokevirtual 60, 3) := by decide +kernel
theorem dX10_isStation_5 : decode cX10_isStation 5 = .ok (.ifCond .eq 19, 3) := by decide +kernel
theorem dX10_isStation_24 : decode cX10_isStation 24 = .ok (.iconst 0, 1) := by decide +kernel
theorem dX10_isStation_25 : decode cX10_isStation 25 = .ok (.ireturn, 1) := by decide +kernel
theorem dX10_kindOf_0 : decode cX10_kindOf 0 = .ok (.iload_n 1, 1) := by decide +kernel
theorem dX10_kindOf_1 : decode cX10_kindOf 1 = .ok (.ifCond .lt 20, 3) := by decide +kernel
theorem dX10_kindOf_4 : decode cX10_kindOf 4 = .ok (.iload_n 1, 1) := by decide +kernel
theorem dX10_kindOf_5 : decode cX10_kindOf 5 = .ok (.aload_n 0, 1) := by decide +kernel
theorem dX10_kindOf_6 : decode cX10_kindOf 6 = .ok (.getfield 46, 3) := by decide +kernel
theorem dX10_kindOf_9 : decode cX10_kindOf 9 = .ok (.if_icmp .ge 12, 3) := by decide +kernel
theorem dX10_kindOf_21 : decode cX10_kindOf 21 = .ok (.iconst (-1), 1) := by decide +kernel
theorem dX10_kindOf_22 : decode cX10_kindOf 22 = .ok (.ireturn, 1) := by decide +kernel
theorem dX11_boxOf_0 : decode cX11_boxOf 0 = .ok (.iload_n 0, 1) := by decide +kernel
theorem dX11_boxOf_1 : decode cX11_boxOf 1 = .ok (.iconst 4, 1) := by decide +kernel
theorem dX11_boxOf_2 : decode cX11_boxOf 2 = .ok (.idiv, 1) := by decide +kernel
theorem dX11_boxOf_3 : decode cX11_boxOf 3 = .ok (.ireturn, 1) := by decide +kernel
theorem dX11_needBox_0 : decode cX11_needBox 0 = .ok (.aload_n 0, 1) := by decide +kernel
theorem dX11_needBox_1 : decode cX11_needBox 1 = .ok (.getfield 12, 3) := by decide +kernel
theorem dX11_needBox_4 : decode cX11_needBox 4 = .ok (.iload_n 1, 1) := by decide +kernel
theorem dX11_needBox_5 : decode cX11_needBox 5 = .ok (.invokevirtual 222, 3) := by decide +kernel
theorem dX11_needBox_8 : decode cX11_needBox 8 = .ok (.ifCond .ne 13, 3) := by decide +kernel
theorem dX11_needBox_11 : decode cX11_needBox 11 = .ok (.new 211, 3) := by decide +kernel
theorem dX11_needBox_14 : decode cX11_needBox 14 = .ok (.dup, 1) := by decide +kernel
theorem dX11_needBox_15 : decode cX11_needBox 15 = .ok (.ldc 225, 2) := by decide +kernel
theorem dX11_needBox_17 : decode cX11_needBox 17 = .ok (.invokespecial 215, 3) := by decide +kernel
theorem dX11_needBox_20 : decode cX11_needBox 20 = .ok (.athrow, 1) := by decide +kernel
theorem dX11_needCable_0 : decode cX11_needCable 0 = .ok (.iload_n 1, 1) := by decide +kernel
theorem dX11_needCable_1 : decode cX11_needCable 1 = .ok (.ifCond .lt 14, 3) := by decide +kernel
theorem dX11_needCable_4 : decode cX11_needCable 4 = .ok (.iload_n 1, 1) := by decide +kernel
theorem dX11_needCable_5 : decode cX11_needCable 5 = .ok (.aload_n 0, 1) := by decide +kernel
theorem dX11_needCable_6 : decode cX11_needCable 6 = .ok (.getfield 12, 3) := by decide +kernel
theorem dX11_needCable_9 : decode cX11_needCable 9 = .ok (.getfield 232, 3) := by decide +kernel
theorem dX11_needCable_12 : decode cX11_needCable 12 = .ok (.if_icmp .lt 13, 3) := by decide +kernel
theorem dX11_needCable_15 : decode cX11_needCable 15 = .ok (.new 211, 3) := by decide +kernel
theorem dX11_needCable_18 : decode cX11_needCable 18 = .ok (.dup, 1) := by decide +kernel
theorem dX11_needCable_19 : decode cX11_needCable 19 = .ok (.ldc 235, 2) := by decide +kernel
theorem dX11_needCable_21 : decode cX11_needCable 21 = .ok (.invokespecial 215, 3) := by decide +kernel
theorem dX11_needCable_24 : decode cX11_needCable 24 = .ok (.athrow, 1) := by decide +kernel
theorem dX11_needPacket_0 : decode cX11_needPacket 0 = .ok (.iload_n 1, 1) := by decide +kernel
theorem dX11_needPacket_1 : decode cX11_needPacket 1 = .ok (.ifCond .lt 14, 3) := by decide +kernel
theorem dX11_needPacket_4 : decode cX11_needPacket 4 = .ok (.iload_n 1, 1) := by decide +kernel
theorem dX11_needPacket_5 : decode cX11_needPacket 5 = .ok (.aload_n 0, 1) := by decide +kernel
theorem dX11_needPacket_6 : decode cX11_needPacket 6 = .ok (.getfield 53, 3) := by decide +kernel
theorem dX11_needPacket_9 : decode cX11_needPacket 9 = .ok (.getfield 237, 3) := by decide +kernel
theorem dX11_needPacket_12 : decode cX11_needPacket 12 = .ok (.if_icmp .lt 13, 3) := by decide +kernel
theorem dX11_needPacket_15 : decode cX11_needPacket 15 = .ok (.new 211, 3) := by decide +kernel
theorem dX11_needPacket_18 : decode cX11_needPacket 18 = .ok (.dup, 1) := by decide +kernel
theorem dX11_needPacket_19 : decode cX11_needPacket 19 = .ok (.ldc 240, 2) := by decide +kernel
theorem dX11_needPacket_21 : decode cX11_needPacket 21 = .ok (.invokespecial 215, 3) := by decide +kernel
theorem dX11_needPacket_24 : decode cX11_needPacket 24 = .ok (.athrow, 1) := by decide +kernel
theorem dX11_needPort_0 : decode cX11_needPort 0 = .ok (.aload_n 0, 1) := by decide +kernel
theorem dX11_needPort_1 : decode cX11_needPort 1 = .ok (.getfield 12, 3) := by decide +kernel
theorem dX11_needPort_4 : decode cX11_needPort 4 = .ok (.iload_n 1, 1) := by decide +kernel
theorem dX11_needPort_5 : decode cX11_needPort 5 = .ok (.invokevirtual 227, 3) := by decide +kernel
theorem dX11_needPort_8 : decode cX11_needPort 8 = .ok (.ifCond .ne 13, 3) := by decide +kernel
theorem dX11_needPort_11 : decode cX11_needPort 11 = .ok (.new 211, 3) := by decide +kernel
theorem dX11_needPort_14 : decode cX11_needPort 14 = .ok (.dup, 1) := by decide +kernel
theorem dX11_needPort_15 : decode cX11_needPort 15 = .ok (.ldc 230, 2) := by decide +kernel
theorem dX11_needPort_17 : decode cX11_needPort 17 = .ok (.invokespecial 215, 3) := by decide +kernel
theorem dX11_needPort_20 : decode cX11_needPort 20 = .ok (.athrow, 1) := by decide +kernel
theorem dX11_ownNumber_0 : decode cX11_ownNumber 0 = .ok (.iload_n 0, 1) := by decide +kernel
theorem dX11_ownNumber_1 : decode cX11_ownNumber 1 = .ok (.iconst 4, 1) := by decide +kernel
theorem dX11_ownNumber_2 : decode cX11_ownNumber 2 = .ok (.irem, 1) := by decide +kernel
theorem dX11_ownNumber_3 : decode cX11_ownNumber 3 = .ok (.ireturn, 1) := by decide +kernel
theorem u_1 : Cond.initialized RX11 ∈ gU := gm (i := 1) (by decide +kernel) (by decide +kernel)
theorem u_2 : Cond.initialized RX10 ∈ gU := gm (i := 2) (by decide +kernel) (by decide +kernel)
theorem u_20 : Cond.initialized "java/lang/IndexOutOfBoundsException" ∈ gU := gm (i := 20) (by decide +kernel) (by decide +kernel)
theorem u_40 : Cond.fieldLink RX10 46 "DrystoneSimnet$Wiring" "boxes" "I" ∈ gU := gm (i := 40) (by decide +kernel) (by decide +kernel)
theorem u_474 : Cond.fieldLink RX11 12 "DrystoneSimnet" "wiring" "LDrystoneSimnet$Wiring;" ∈ gU := gm (i := 474) (by decide +kernel) (by decide +kernel)
theorem u_479 : Cond.fieldLink RX11 53 "DrystoneSimnet" "traffic" "LDrystoneSimnet$Traffic;" ∈ gU := gm (i := 479) (by decide +kernel) (by decide +kernel)
theorem u_615 : Cond.methodLink RX11 227 yX10_hasPort ∈ gU := gm (i := 615) (by decide +kernel) (by decide +kernel)
theorem u_616 : Cond.instanceMethod yX10_hasPort ∈ gU := gm (i := 616) (by decide +kernel) (by decide +kernel)
theorem u_617 : Cond.selects RX10 yX10_hasPort yX10_hasPort ∈ gU := gm (i := 617) (by decide +kernel) (by decide +kernel)
theorem u_618 : Cond.code yX10_hasPort cX10_hasPort 4 (some .boolean) ∈ gU := gm (i := 618) (by decide +kernel) (by decide +kernel)
theorem u_620 : Cond.static yX11_boxOf ∈ gU := gm (i := 620) (by decide +kernel) (by decide +kernel)
theorem u_621 : Cond.code yX11_boxOf cX11_boxOf 1 (some .int) ∈ gU := gm (i := 621) (by decide +kernel) (by decide +kernel)
theorem u_622 : Cond.methodLink RX10 54 yX10_kindOf ∈ gU := gm (i := 622) (by decide +kernel) (by decide +kernel)
theorem u_623 : Cond.instanceMethod yX10_kindOf ∈ gU := gm (i := 623) (by decide +kernel) (by decide +kernel)
theorem u_624 : Cond.selects RX10 yX10_kindOf yX10_kindOf ∈ gU := gm (i := 624) (by decide +kernel) (by decide +kernel)
theorem u_625 : Cond.code yX10_kindOf cX10_kindOf 2 (some .int) ∈ gU := gm (i := 625) (by decide +kernel) (by decide +kernel)
theorem u_627 : Cond.static yX11_ownNumber ∈ gU := gm (i := 627) (by decide +kernel) (by decide +kernel)
theorem u_628 : Cond.code yX11_ownNumber cX11_ownNumber 1 (some .int) ∈ gU := gm (i := 628) (by decide +kernel) (by decide +kernel)
theorem u_629 : Cond.classLink RX11 211 "java/lang/IndexOutOfBoundsException" ∈ gU := gm (i := 629) (by decide +kernel) (by decide +kernel)
theorem u_732 : Cond.methodLink RX10 60 yX10_hasPort ∈ gU := gm (i := 732) (by decide +kernel) (by decide +kernel)
theorem u_786 : Cond.methodLink RX11 222 yX10_hasBox ∈ gU := gm (i := 786) (by decide +kernel) (by decide +kernel)
theorem u_787 : Cond.instanceMethod yX10_hasBox ∈ gU := gm (i := 787) (by decide +kernel) (by decide +kernel)
theorem u_788 : Cond.selects RX10 yX10_hasBox yX10_hasBox ∈ gU := gm (i := 788) (by decide +kernel) (by decide +kernel)
theorem u_789 : Cond.code yX10_hasBox cX10_hasBox 2 (some .boolean) ∈ gU := gm (i := 789) (by decide +kernel) (by decide +kernel)
theorem gX10 : ∀ w ∈ u_ws RX10 TX10 11, w ∈ gU := gIn [57, 59, 61, 63, 65, 67, 69, 71, 73, 75, 77] (by decide +kernel) (by decide +kernel)
theorem gX11 : ∀ w ∈ u_ws RX11 TX11 7, w ∈ gU := gIn [481, 483, 485, 487, 489, 491, 493] (by decide +kernel) (by decide +kernel)
theorem gX9 : ∀ w ∈ u_ws RX9 TX9 19, w ∈ gU := gIn [377, 379, 381, 383, 385, 387, 389, 391, 393, 395, 397, 399, 401, 403, 405, 407, 409, 411, 413] (by decide +kernel) (by decide +kernel)
set_option maxHeartbeats 4000000 in
set_option maxRecDepth 100000 in
theorem c_X11_boxOf (l : Launch) (dC : Nat → ClassId) (dI : Nat → Nat → Nat) (sz : Nat) (a : Int32) : Met l yX11_boxOf (Cond.code yX11_boxOf cX11_boxOf 1 (some .int) :: gU) ({ frames := 0, cells := 0, slots := 0, locals := 0 }) (gP dC dI sz [] [] [.int a]) (va_Qi (fun (r : Int32) (_ : Unit) => r = a / 4) (fun _ _ => True) (va_A [] sz)) 0 0 (va_A [] sz) := by
  refine Met.ofW (cc := cX11_boxOf) (maxL := 1) (ret := (some .int)) (by decide) rfl ?_
  intro p e s m args below meth c s₁ B hml hv
  obtain ⟨rfl, hsz, hP, hK, hD0, hE⟩ := hv
  have hx := B.exec
  have hb := B.bytes
  have hr := B.returns
  have hts0 := atoms_spec (ws := Cond.code yX11_boxOf cX11_boxOf 1 (some .int) :: gU) B.pre
  have hts : ∀ w ∈ gU, w.before _ s = true := fun w h => hts0 w (List.mem_cons_of_mem _ h)
  have hown : s.vm.findClass RX11 = some m.cls := findClass_of_methodNamed B.named
  have hlocks := B.notSynchronized
  subst hsz
  have hD := hD0
  generalize hAe : va_A [] s.heap.size = A at ⊢
  have hA : ∀ q : Nat, s.heap.size ≤ q → A q := fun q h => by rw [← hAe]; exact Or.inr h
  have hS : va_S A s.heap s.heap [] := va_S.rf
  have hP : va_P (dC, dI) vwCl [] s.heap := hP
  have hl := lv_entry ([.int a]) (n := 1) (Nat.le_of_ble_eq_true rfl)
  rw [lg_entry_eq]
  generalize (lg_sl ([.int a]) ++ List.replicate (1 - (lg_sl ([.int a])).length) Slot.unset).toArray = ls at hl ⊢
  have hl : lv_has ls 1 [(0, .int a)] := hl
  refine lv_iload_n hx hb dX11_boxOf_0 rfl (lv_at hl 0 rfl) ?_
  refine lv_iconst (v := 4) hx hb dX11_boxOf_1 (by decide) ?_
  refine lv_idiv hx hb dX11_boxOf_2 (by decide) ?_
  refine W.widen (k := 0) (n := 0) (Nat.le_of_ble_eq_true rfl) (Nat.le_of_ble_eq_true rfl) ?_
  exact W.iret (v := a / 4) hx hb hr (fun t ht hW => ⟨⟨a / 4, (), rfl, rfl, trivial⟩, hS.F ht⟩) hS.2.2 dX11_boxOf_3
set_option maxHeartbeats 4000000 in
set_option maxRecDepth 100000 in
theorem c_X11_ownNumber (l : Launch) (dC : Nat → ClassId) (dI : Nat → Nat → Nat) (sz : Nat) (a : Int32) : Met l yX11_ownNumber (Cond.code yX11_ownNumber cX11_ownNumber 1 (some .int) :: gU) ({ frames := 0, cells := 0, slots := 0, locals := 0 }) (gP dC dI sz [] [] [.int a]) (va_Qi (fun (r : Int32) (_ : Unit) => r = a - a / 4 * 4) (fun _ _ => True) (va_A [] sz)) 0 0 (va_A [] sz) := by
  refine Met.ofW (cc := cX11_ownNumber) (maxL := 1) (ret := (some .int)) (by decide) rfl ?_
  intro p e s m args below meth c s₁ B hml hv
  obtain ⟨rfl, hsz, hP, hK, hD0, hE⟩ := hv
  have hx := B.exec
  have hb := B.bytes
  have hr := B.returns
  have hts0 := atoms_spec (ws := Cond.code yX11_ownNumber cX11_ownNumber 1 (some .int) :: gU) B.pre
  have hts : ∀ w ∈ gU, w.before _ s = true := fun w h => hts0 w (List.mem_cons_of_mem _ h)
  have hown : s.vm.findClass RX11 = some m.cls := findClass_of_methodNamed B.named
  have hlocks := B.notSynchronized
  subst hsz
  have hD := hD0
  generalize hAe : va_A [] s.heap.size = A at ⊢
  have hA : ∀ q : Nat, s.heap.size ≤ q → A q := fun q h => by rw [← hAe]; exact Or.inr h
  have hS : va_S A s.heap s.heap [] := va_S.rf
  have hP : va_P (dC, dI) vwCl [] s.heap := hP
  have hl := lv_entry ([.int a]) (n := 1) (Nat.le_of_ble_eq_true rfl)
  rw [lg_entry_eq]
  generalize (lg_sl ([.int a]) ++ List.replicate (1 - (lg_sl ([.int a])).length) Slot.unset).toArray = ls at hl ⊢
  have hl : lv_has ls 1 [(0, .int a)] := hl
  refine lv_iload_n hx hb dX11_ownNumber_0 rfl (lv_at hl 0 rfl) ?_
  refine lv_iconst (v := 4) hx hb dX11_ownNumber_1 (by decide) ?_
  refine lv_irem hx hb dX11_ownNumber_2 (by decide) ?_
  refine W.widen (k := 0) (n := 0) (Nat.le_of_ble_eq_true rfl) (Nat.le_of_ble_eq_true rfl) ?_
  exact W.iret (v := a - a / 4 * 4) hx hb hr (fun t ht hW => ⟨⟨a - a / 4 * 4, (), rfl, rfl, trivial⟩, hS.F ht⟩) hS.2.2 dX11_ownNumber_3
set_option maxHeartbeats 4000000 in
set_option maxRecDepth 100000 in
theorem c_X10_kindOf (l : Launch) (dC : Nat → ClassId) (dI : Nat → Nat → Nat) (sz : Nat) (h0 : Nat) (kd : Nat) (gW : Nat → Nat) (a : Int32) : Met l yX10_kindOf (Cond.code yX10_kindOf cX10_kindOf 2 (some .int) :: gU) ({ frames := 0, cells := 0, slots := 0, locals := 0 }) (gP dC dI sz [(h0, .inr (10, oW kd gW 0 0))] [] [.ref h0, .int a]) (va_Qi (fun (r : Int32) (_ : Unit) => r = (-1)) (fun _ _ => True) (va_A [] sz)) 0 0 (va_A [] sz) := by
  refine Met.ofW (cc := cX10_kindOf) (maxL := 2) (ret := (some .int)) (by decide) rfl ?_
  intro p e s m args below meth c s₁ B hml hv
  obtain ⟨rfl, hsz, hP, hK, hD0, hE⟩ := hv
  have hx := B.exec
  have hb := B.bytes
  have hr := B.returns
  have hts0 := atoms_spec (ws := Cond.code yX10_kindOf cX10_kindOf 2 (some .int) :: gU) B.pre
  have hts : ∀ w ∈ gU, w.before _ s = true := fun w h => hts0 w (List.mem_cons_of_mem _ h)
  have hown : s.vm.findClass RX10 = some m.cls := findClass_of_methodNamed B.named
  have hlocks := B.notSynchronized
  subst hsz
  have hD := hD0
  generalize hAe : va_A [] s.heap.size = A at ⊢
  have hA : ∀ q : Nat, s.heap.size ≤ q → A q := fun q h => by rw [← hAe]; exact Or.inr h
  have hS : va_S A s.heap s.heap [] := va_S.rf
  have hP : va_P (dC, dI) vwCl [(h0, .inr (10, oW kd gW 0 0))] s.heap := hP
  have hl := lv_entry ([.ref h0, .int a]) (n := 2) (Nat.le_of_ble_eq_true rfl)
  rw [lg_entry_eq]
  generalize (lg_sl ([.ref h0, .int a]) ++ List.replicate (2 - (lg_sl ([.ref h0, .int a])).length) Slot.unset).toArray = ls at hl ⊢
  have hl : lv_has ls 2 [(0, .ref h0), (1, .int a)] := hl
  refine lv_iload_n hx hb dX10_kindOf_0 rfl (lv_at hl 1 rfl) ?_
  refine lv_if_lt (tgt := 21) hx hb dX10_kindOf_1 (by decide) (fun h1 => ?_) (fun h1 => ?_)
  · refine lv_iconst (v := (-1)) hx hb dX10_kindOf_21 (by decide) ?_
    refine W.widen (k := 0) (n := 0) (Nat.le_of_ble_eq_true rfl) (Nat.le_of_ble_eq_true rfl) ?_
    exact W.iret (v := (-1)) hx hb hr (fun t ht hW => ⟨⟨(-1), (), rfl, rfl, trivial⟩, hS.F ht⟩) hS.2.2 dX10_kindOf_22
  · refine lv_iload_n hx hb dX10_kindOf_4 rfl (lv_at hl 1 rfl) ?_
    refine lv_aload_n hx hb dX10_kindOf_5 rfl (lv_at hl 0 rfl) ?_
    refine va_get (D := (dC, dI)) (ci := 10) (v := .int 0) (C := RX10) (T := TX10) (N := 11) hx hb hts gX10 hown hK hP 0 rfl rfl 0 (by decide) (hts _ u_40) (fun _ h9 => h9) rfl dX10_kindOf_6 ?_
    refine lv_icmp_ge (tgt := 21) hx hb dX10_kindOf_9 (by decide) (fun _ => ?_) (fun h9 => absurd (i_nlt h1) h9)
    refine lv_iconst (v := (-1)) hx hb dX10_kindOf_21 (by decide) ?_
    refine W.widen (k := 0) (n := 0) (Nat.le_of_ble_eq_true rfl) (Nat.le_of_ble_eq_true rfl) ?_
    exact W.iret (v := (-1)) hx hb hr (fun t ht hW => ⟨⟨(-1), (), rfl, rfl, trivial⟩, hS.F ht⟩) hS.2.2 dX10_kindOf_22
set_option maxHeartbeats 4000000 in
set_option maxRecDepth 100000 in
theorem c_X10_hasBox (l : Launch) (dC : Nat → ClassId) (dI : Nat → Nat → Nat) (sz : Nat) (h0 : Nat) (kd : Nat) (gW : Nat → Nat) (a : Int32) : Met l yX10_hasBox (Cond.code yX10_hasBox cX10_hasBox 2 (some .boolean) :: gU) ({ frames := 0, cells := 0, slots := 0, locals := 0 }) (gP dC dI sz [(h0, .inr (10, oW kd gW 0 0))] [] [.ref h0, .int a]) (va_Qi (fun (r : Int32) (_ : Unit) => r = 0) (fun _ _ => True) (va_A [] sz)) 0 0 (va_A [] sz) := by
  refine Met.ofW (cc := cX10_hasBox) (maxL := 2) (ret := (some .boolean)) (by decide) rfl ?_
  intro p e s m args below meth c s₁ B hml hv
  obtain ⟨rfl, hsz, hP, hK, hD0, hE⟩ := hv
  have hx := B.exec
  have hb := B.bytes
  have hr := B.returns
  have hts0 := atoms_spec (ws := Cond.code yX10_hasBox cX10_hasBox 2 (some .boolean) :: gU) B.pre
  have hts : ∀ w ∈ gU, w.before _ s = true := fun w h => hts0 w (List.mem_cons_of_mem _ h)
  have hown : s.vm.findClass RX10 = some m.cls := findClass_of_methodNamed B.named
  have hlocks := B.notSynchronized
  subst hsz
  have hD := hD0
  generalize hAe : va_A [] s.heap.size = A at ⊢
  have hA : ∀ q : Nat, s.heap.size ≤ q → A q := fun q h => by rw [← hAe]; exact Or.inr h
  have hS : va_S A s.heap s.heap [] := va_S.rf
  have hP : va_P (dC, dI) vwCl [(h0, .inr (10, oW kd gW 0 0))] s.heap := hP
  have hl := lv_entry ([.ref h0, .int a]) (n := 2) (Nat.le_of_ble_eq_true rfl)
  rw [lg_entry_eq]
  generalize (lg_sl ([.ref h0, .int a]) ++ List.replicate (2 - (lg_sl ([.ref h0, .int a])).length) Slot.unset).toArray = ls at hl ⊢
  have hl : lv_has ls 2 [(0, .ref h0), (1, .int a)] := hl
  refine lv_iload_n hx hb dX10_hasBox_0 rfl (lv_at hl 1 rfl) ?_
  refine lv_if_lt (tgt := 16) hx hb dX10_hasBox_1 (by decide) (fun h1 => ?_) (fun h1 => ?_)
  · refine lv_iconst (v := 0) hx hb dX10_hasBox_16 (by decide) ?_
    refine W.widen (k := 0) (n := 0) (Nat.le_of_ble_eq_true rfl) (Nat.le_of_ble_eq_true rfl) ?_
    exact W.zret (v := 0) hx hb hr (by decide) (fun t ht hW => ⟨⟨0, (), rfl, rfl, trivial⟩, hS.F ht⟩) hS.2.2 dX10_hasBox_17
  · refine lv_iload_n hx hb dX10_hasBox_4 rfl (lv_at hl 1 rfl) ?_
    refine lv_aload_n hx hb dX10_hasBox_5 rfl (lv_at hl 0 rfl) ?_
    refine va_get (D := (dC, dI)) (ci := 10) (v := .int 0) (C := RX10) (T := TX10) (N := 11) hx hb hts gX10 hown hK hP 0 rfl rfl 0 (by decide) (hts _ u_40) (fun _ h9 => h9) rfl dX10_hasBox_6 ?_
    refine lv_icmp_ge (tgt := 16) hx hb dX10_hasBox_9 (by decide) (fun _ => ?_) (fun h9 => absurd (i_nlt h1) h9)
    refine lv_iconst (v := 0) hx hb dX10_hasBox_16 (by decide) ?_
    refine W.widen (k := 0) (n := 0) (Nat.le_of_ble_eq_true rfl) (Nat.le_of_ble_eq_true rfl) ?_
    exact W.zret (v := 0) hx hb hr (by decide) (fun t ht hW => ⟨⟨0, (), rfl, rfl, trivial⟩, hS.F ht⟩) hS.2.2 dX10_hasBox_17
set_option maxHeartbeats 4000000 in
set_option maxRecDepth 100000 in
theorem c_X10_hasPort (l : Launch) (dC : Nat → ClassId) (dI : Nat → Nat → Nat) (sz : Nat) (h0 : Nat) (kd : Nat) (gW : Nat → Nat) (a : Int32) : Met l yX10_hasPort (Cond.code yX10_hasPort cX10_hasPort 4 (some .boolean) :: gU) ({ frames := 1, cells := 0, slots := 0, locals := 21 }) (gP dC dI sz [(h0, .inr (10, oW kd gW 0 0))] [] [.ref h0, .int a]) (va_Qi (fun (r : Int32) (_ : Unit) => r = 0) (fun _ _ => True) (va_A [] sz)) 0 0 (va_A [] sz) := by
  refine Met.ofW (cc := cX10_hasPort) (maxL := 4) (ret := (some .boolean)) (by decide) rfl ?_
  intro p e s m args below meth c s₁ B hml hv
  obtain ⟨rfl, hsz, hP, hK, hD0, hE⟩ := hv
  have hx := B.exec
  have hb := B.bytes
  have hr := B.returns
  have hts0 := atoms_spec (ws := Cond.code yX10_hasPort cX10_hasPort 4 (some .boolean) :: gU) B.pre
  have hts : ∀ w ∈ gU, w.before _ s = true := fun w h => hts0 w (List.mem_cons_of_mem _ h)
  have hown : s.vm.findClass RX10 = some m.cls := findClass_of_methodNamed B.named
  have hlocks := B.notSynchronized
  subst hsz
  have hD := hD0
  generalize hAe : va_A [] s.heap.size = A at ⊢
  have hA : ∀ q : Nat, s.heap.size ≤ q → A q := fun q h => by rw [← hAe]; exact Or.inr h
  have hS : va_S A s.heap s.heap [] := va_S.rf
  have hP : va_P (dC, dI) vwCl [(h0, .inr (10, oW kd gW 0 0))] s.heap := hP
  have hl := lv_entry ([.ref h0, .int a]) (n := 4) (Nat.le_of_ble_eq_true rfl)
  rw [lg_entry_eq]
  generalize (lg_sl ([.ref h0, .int a]) ++ List.replicate (4 - (lg_sl ([.ref h0, .int a])).length) Slot.unset).toArray = ls at hl ⊢
  have hl : lv_has ls 4 [(0, .ref h0), (1, .int a)] := hl
  refine lv_iload_n hx hb dX10_hasPort_0 rfl (lv_at hl 1 rfl) ?_
  refine lv_if_ge (tgt := 6) hx hb dX10_hasPort_1 (by decide) (fun h1 => ?_) (fun h1 => ?_)
  · refine lv_aload_n hx hb dX10_hasPort_6 rfl (lv_at hl 0 rfl) ?_
    refine lv_iload_n hx hb dX10_hasPort_7 rfl (lv_at hl 1 rfl) ?_
    have hPc := hP.sub (ws' := []) [] rfl
    have hDc := hD.sub (ws' := []) [] (by decide) rfl
    have hKc := hK.sub (tys' := []) [] rfl
    have hFc := roF hS hA
    refine va_calli (va_runSN (As := [.int a]) (rest := [.ref h0]) ⟨hx, hb, hml, hown, hts⟩ (c_X11_boxOf l dC dI s.heap.size a) ⟨va_cnB 1 hts (gC u_621) rfl rfl rfl (hE.1 _ n_5) (hts _ u_1) (by decide +kernel) ⟨Nat.le_of_ble_eq_true rfl, Nat.le_of_ble_eq_true rfl⟩, hts _ u_620, trivial⟩ ⟨gP_blind, gP_call hPc hKc hDc hE⟩ rfl rfl hl.1 rfl (lv_room (Nat.le_of_ble_eq_true rfl)) dX10_hasPort_8 ⟨(Nat.le_of_ble_eq_true rfl), (Nat.le_of_ble_eq_true rfl)⟩) hS (fun q _ h => hFc q h) hFc (fun r2 u9 t9 H1 locs ht hvm hw hB hz1 hk1 hS => ?_)
    have hP := roP hP hk1
    subst hw
    have hPc := hP.sub (ws' := [(h0, .inr (10, oW kd gW 0 0))]) [0] rfl
    have hDc := hD.sub (ws' := [(h0, .inr (10, oW kd gW 0 0))]) [0] (by decide) rfl
    have hKc := hK.sub (tys' := []) [] rfl
    have hFc := roF hS hA
    refine va_calli (va_runV (As := [.int (a / 4)]) (rest := []) ⟨hx, hb, hml, hown, hts⟩ (c_X10_kindOf l dC dI H1.size h0 kd gW (a / 4)) (cwV 1 hts (gV u_622 u_623 u_624 u_2 u_625) rfl rfl rfl (by decide +kernel) ⟨Nat.le_of_ble_eq_true rfl, Nat.le_of_ble_eq_true rfl⟩) ⟨gP_blind, va_recv hKc hPc (ci := 10) (q0 := 0) rfl rfl, gP_call hPc hKc hDc hE⟩ rfl rfl hl.1 rfl (lv_room (Nat.le_of_ble_eq_true rfl)) dX10_hasPort_11 ⟨(Nat.le_of_ble_eq_true rfl), (Nat.le_of_ble_eq_true rfl)⟩) hS (fun q _ h => hFc q h) hFc (fun r4 u9 t9 H3 locs ht hvm hw hB hz1 hk1 hS => ?_)
    have hP := roP hP hk1
    subst hw
    refine lv_istore_n (lv' := [(2, .int (-1)), (0, .ref h0), (1, .int a)]) hx hb dX10_hasPort_14 rfl hl (by decide) rfl (fun ls hl => ?_)
    refine lv_iload_n hx hb dX10_hasPort_15 rfl (lv_at hl 0 rfl) ?_
    refine lv_if_ne (tgt := 23) hx hb dX10_hasPort_16 (by decide) (fun _ => ?_) (fun h9 => absurd h9 (by decide))
    refine lv_iload_n hx hb dX10_hasPort_23 rfl (lv_at hl 0 rfl) ?_
    refine lv_iconst (v := 2) hx hb dX10_hasPort_24 (by decide) ?_
    refine lv_icmp_ne (tgt := 32) hx hb dX10_hasPort_25 (by decide) (fun _ => ?_) (fun h9 => absurd h9 (by decide))
    refine lv_iload_n hx hb dX10_hasPort_32 rfl (lv_at hl 0 rfl) ?_
    refine lv_iconst (v := 1) hx hb dX10_hasPort_33 (by decide) ?_
    refine lv_icmp_ne (tgt := 41) hx hb dX10_hasPort_34 (by decide) (fun _ => ?_) (fun h9 => absurd h9 (by decide))
    refine lv_iconst (v := 0) hx hb dX10_hasPort_41 (by decide) ?_
    refine lv_istore_n (lv' := [(3, .int 0), (2, .int (-1)), (0, .ref h0), (1, .int a)]) hx hb dX10_hasPort_42 rfl hl (by decide) rfl (fun ls hl => ?_)
    refine lv_iload_n hx hb dX10_hasPort_43 rfl (lv_at hl 3 rfl) ?_
    have hPc := hP.sub (ws' := []) [] rfl
    have hDc := hD.sub (ws' := []) [] (by decide) rfl
    have hKc := hK.sub (tys' := []) [] rfl
    have hFc := roF hS hA
    refine va_calli (va_runSN (As := [.int a]) (rest := []) ⟨hx, hb, hml, hown, hts⟩ (c_X11_ownNumber l dC dI H3.size a) ⟨va_cnB 1 hts (gC u_628) rfl rfl rfl (hE.1 _ n_6) (hts _ u_1) (by decide +kernel) ⟨Nat.le_of_ble_eq_true rfl, Nat.le_of_ble_eq_true rfl⟩, hts _ u_627, trivial⟩ ⟨gP_blind, gP_call hPc hKc hDc hE⟩ rfl rfl hl.1 rfl (lv_room (Nat.le_of_ble_eq_true rfl)) dX10_hasPort_44 ⟨(Nat.le_of_ble_eq_true rfl), (Nat.le_of_ble_eq_true rfl)⟩) hS (fun q _ h => hFc q h) hFc (fun r6 u9 t9 H5 locs ht hvm hw hB hz1 hk1 hS => ?_)
    have hP := roP hP hk1
    subst hw
    refine lv_iload_n hx hb dX10_hasPort_47 rfl (lv_at hl 0 rfl) ?_
    refine lv_icmp_ge (tgt := 55) hx hb dX10_hasPort_48 (by decide) (fun _ => ?_) (fun h9 => absurd (own_ge h1) h9)
    refine lv_iconst (v := 0) hx hb dX10_hasPort_55 (by decide) ?_
    refine W.widen (k := 0) (n := 0) (Nat.le_of_ble_eq_true rfl) (Nat.le_of_ble_eq_true rfl) ?_
    exact W.zret (v := 0) hx hb hr (by decide) (fun t ht hW => ⟨⟨0, (), rfl, rfl, trivial⟩, hS.F ht⟩) hS.2.2 dX10_hasPort_56
  · refine lv_iconst (v := 0) hx hb dX10_hasPort_4 (by decide) ?_
    refine W.widen (k := 0) (n := 0) (Nat.le_of_ble_eq_true rfl) (Nat.le_of_ble_eq_true rfl) ?_
    exact W.zret (v := 0) hx hb hr (by decide) (fun t ht hW => ⟨⟨0, (), rfl, rfl, trivial⟩, hS.F ht⟩) hS.2.2 dX10_hasPort_5
set_option maxHeartbeats 4000000 in
set_option maxRecDepth 100000 in
theorem c_X10_isStation (l : Launch) (dC : Nat → ClassId) (dI : Nat → Nat → Nat) (sz : Nat) (h0 : Nat) (kd : Nat) (gW : Nat → Nat) (a : Int32) : Met l yX10_isStation (Cond.code yX10_isStation cX10_isStation 2 (some .boolean) :: gU) ({ frames := 2, cells := 0, slots := 0, locals := 44 }) (gP dC dI sz [(h0, .inr (10, oW kd gW 0 0))] [] [.ref h0, .int a]) (va_Qi (fun (r : Int32) (_ : Unit) => r = 0) (fun _ _ => True) (va_A [] sz)) 0 0 (va_A [] sz) := by
  refine Met.ofW (cc := cX10_isStation) (maxL := 2) (ret := (some .boolean)) (by decide) rfl ?_
  intro p e s m args below meth c s₁ B hml hv
  obtain ⟨rfl, hsz, hP, hK, hD0, hE⟩ := hv
  have hx := B.exec
  have hb := B.bytes
  have hr := B.returns
  have hts0 := atoms_spec (ws := Cond.code yX10_isStation cX10_isStation 2 (some .boolean) :: gU) B.pre
  have hts : ∀ w ∈ gU, w.before _ s = true := fun w h => hts0 w (List.mem_cons_of_mem _ h)
  have hown : s.vm.findClass RX10 = some m.cls := findClass_of_methodNamed B.named
  have hlocks := B.notSynchronized
  subst hsz
  have hD := hD0
  generalize hAe : va_A [] s.heap.size = A at ⊢
  have hA : ∀ q : Nat, s.heap.size ≤ q → A q := fun q h => by rw [← hAe]; exact Or.inr h
  have hS : va_S A s.heap s.heap [] := va_S.rf
  have hP : va_P (dC, dI) vwCl [(h0, .inr (10, oW kd gW 0 0))] s.heap := hP
  have hl := lv_entry ([.ref h0, .int a]) (n := 2) (Nat.le_of_ble_eq_true rfl)
  rw [lg_entry_eq]
  generalize (lg_sl ([.ref h0, .int a]) ++ List.replicate (2 - (lg_sl ([.ref h0, .int a])).length) Slot.unset).toArray = ls at hl ⊢
  have hl : lv_has ls 2 [(0, .ref h0), (1, .int a)] := hl
  refine lv_aload_n hx hb dX10_isStation_0 rfl (lv_at hl 0 rfl) ?_
  refine lv_iload_n hx hb dX10_isStation_1 rfl (lv_at hl 1 rfl) ?_
  have hPc := hP.sub (ws' := [(h0, .inr (10, oW kd gW 0 0))]) [0] rfl
  have hDc := hD.sub (ws' := [(h0, .inr (10, oW kd gW 0 0))]) [0] (by decide) rfl
  have hKc := hK.sub (tys' := []) [] rfl
  have hFc := roF hS hA
  refine va_calli (va_runV (As := [.int a]) (rest := []) ⟨hx, hb, hml, hown, hts⟩ (c_X10_hasPort l dC dI s.heap.size h0 kd gW a) (cwV 1 hts (gV u_732 u_616 u_617 u_2 u_618) rfl rfl rfl (by decide +kernel) ⟨Nat.le_of_ble_eq_true rfl, Nat.le_of_ble_eq_true rfl⟩) ⟨gP_blind, va_recv hKc hPc (ci := 10) (q0 := 0) rfl rfl, gP_call hPc hKc hDc hE⟩ rfl rfl hl.1 rfl (lv_room (Nat.le_of_ble_eq_true rfl)) dX10_isStation_2 ⟨(Nat.le_of_ble_eq_true rfl), (Nat.le_of_ble_eq_true rfl)⟩) hS (fun q _ h => hFc q h) hFc (fun r8 u9 t9 H7 locs ht hvm hw hB hz1 hk1 hS => ?_)
  have hP := roP hP hk1
  subst hw
  refine lv_if_eq (tgt := 24) hx hb dX10_isStation_5 (by decide) (fun _ => ?_) (fun h9 => absurd (by decide) h9)
  refine lv_iconst (v := 0) hx hb dX10_isStation_24 (by decide) ?_
  refine W.widen (k := 0) (n := 0) (Nat.le_of_ble_eq_true rfl) (Nat.le_of_ble_eq_true rfl) ?_
  exact W.zret (v := 0) hx hb hr (by decide) (fun t ht hW => ⟨⟨0, (), rfl, rfl, trivial⟩, hS.F ht⟩) hS.2.2 dX10_isStation_25
set_option maxHeartbeats 4000000 in
set_option maxRecDepth 100000 in
theorem c_X11_needBox (l : Launch) (dC : Nat → ClassId) (dI : Nat → Nat → Nat) (sz : Nat) (hfl : l.stackTraces = false) (h0 : Nat) (w : Nat) (sg : Nat) (ro : Nat) (tr : Nat) (gX : Nat → Nat) (kd : Nat) (gW : Nat → Nat) (a0 : Int32) : vx_Met l yX11_needBox (Cond.code yX11_needBox cX11_needBox 2 none :: gU) ({ frames := 6, cells := 1, slots := 6, locals := 82 }) (gPZ dC dI sz [(h0, .inr (11, oX w sg ro tr gX)), (w, .inr (10, oW kd gW 0 0))] [] (va_A [] sz) [.ref h0, .int a0]) (va_Qv (fun (_ : Unit) => False) (fun _ _ => True) (va_A [] sz)) (vx_X (fun _ : Unit => True) (fun E9 _ _ => E9 = "java/lang/IndexOutOfBoundsException") (va_A [] sz)) 1 6 (va_A [] sz) := by
  refine vx_ofW (cc := cX11_needBox) (maxL := 2) (ret := none) (by decide) rfl ?_
  intro p e s m args below meth c s₁ B hml ht0 hv
  obtain ⟨rfl, hsz, hP, hK, hD0, hE, hZ⟩ := hv
  have hx := B.exec
  have hb := B.bytes
  have hr := B.returns
  have hts0 := atoms_spec (ws := Cond.code yX11_needBox cX11_needBox 2 none :: gU) B.pre
  have hts : ∀ w ∈ gU, w.before _ s = true := fun w h => hts0 w (List.mem_cons_of_mem _ h)
  have hown : s.vm.findClass RX11 = some m.cls := findClass_of_methodNamed B.named
  have hlocks := B.notSynchronized
  subst hsz
  have hD := hD0
  generalize hAe : va_A [] s.heap.size = A at hZ ⊢
  have hA : ∀ q : Nat, s.heap.size ≤ q → A q := fun q h => by rw [← hAe]; exact Or.inr h
  have hS : va_S A s.heap s.heap [] := va_S.rf
  have hP : va_P (dC, dI) vwCl [(h0, .inr (11, oX w sg ro tr gX)), (w, .inr (10, oW kd gW 0 0))] s.heap := hP
  have hl := lv_entry ([.ref h0, .int a0]) (n := 2) (Nat.le_of_ble_eq_true rfl)
  rw [lg_entry_eq]
  generalize (lg_sl ([.ref h0, .int a0]) ++ List.replicate (2 - (lg_sl ([.ref h0, .int a0])).length) Slot.unset).toArray = ls at hl ⊢
  have hl : lv_has ls 2 [(0, .ref h0), (1, .int a0)] := hl
  refine lv_aload_n hx hb dX11_needBox_0 rfl (lv_at hl 0 rfl) ?_
  refine va_get (D := (dC, dI)) (ci := 11) (v := .ref w) (C := RX11) (T := TX11) (N := 7) hx hb hts gX11 hown hK hP 0 rfl rfl 0 (by decide) (hts _ u_474) (fun _ h9 => h9) rfl dX11_needBox_1 ?_
  refine lv_iload_n hx hb dX11_needBox_4 rfl (lv_at hl 1 rfl) ?_
  have hPc := hP.sub (ws' := [(w, .inr (10, oW kd gW 0 0))]) [1] rfl
  have hDc := hD.sub (ws' := [(w, .inr (10, oW kd gW 0 0))]) [1] (by decide) rfl
  have hKc := hK.sub (tys' := []) [] rfl
  have hFc := roF hS hA
  refine va_calli (va_runV (As := [.int a0]) (rest := []) ⟨hx, hb, hml, hown, hts⟩ (c_X10_hasBox l dC dI s.heap.size w kd gW a0) (cwV 1 hts (gV u_786 u_787 u_788 u_2 u_789) rfl rfl rfl (by decide +kernel) ⟨Nat.le_of_ble_eq_true rfl, Nat.le_of_ble_eq_true rfl⟩) ⟨gP_blind, va_recv hKc hPc (ci := 10) (q0 := 0) rfl rfl, gP_call hPc hKc hDc hE⟩ rfl rfl hl.1 rfl (lv_room (Nat.le_of_ble_eq_true rfl)) dX11_needBox_5 ⟨(Nat.le_of_ble_eq_true rfl), (Nat.le_of_ble_eq_true rfl)⟩) hS (fun q _ h => hFc q h) hFc (fun r10 u9 t9 H9 locs ht hvm hw hB hz1 hk1 hS => ?_)
  have hP := roP hP hk1
  subst hw
  refine lv_if_ne (tgt := 21) hx hb dX11_needBox_8 (by decide) (fun h9 => absurd (by decide) h9) (fun _ => ?_)
  obtain ⟨sa9, hstr⟩ := hE.2.2.2.2.2.1
  exact vx_throwS (own := RX11) (A := A) (cls := "java/lang/IndexOutOfBoundsException") (text := "no such box") (names := ["java/lang/RuntimeException", "java/lang/Exception"]) hx hb hfl hown (by decide +kernel) (by decide +kernel) (hts _ u_629) (hts _ u_20) hstr (vx_hat (B := gN) (fun w hw => hts w (thrI0 w hw)) thrI1 (fun w hw => va_Nw.use (gN_ot w hw) (hE.1 w hw))) thrI2 hZ.1 hZ.2 hS (by rw [hml]; exact hl.1) dX11_needBox_11 dX11_needBox_14 dX11_needBox_15 dX11_needBox_17 dX11_needBox_20 (fun x h => (ht0 x h).elim) (Nat.le_of_ble_eq_true rfl) (Nat.le_of_ble_eq_true rfl) (Nat.le_of_ble_eq_true rfl) (Nat.le_of_ble_eq_true rfl) hlocks (fun t _ h1 h2 => ⟨(), trivial, rfl, ⟨Nat.le_trans hS.1 h1, fun q hq hn => (h2 q (Nat.lt_of_lt_of_le hq hS.1)).trans (hS.2.1 q hq hn)⟩⟩) hS.2.2 (Nat.le_of_ble_eq_true rfl) (Nat.le_of_ble_eq_true rfl)
set_option maxHeartbeats 4000000 in
set_option maxRecDepth 100000 in
theorem c_X11_needPort (l : Launch) (dC : Nat → ClassId) (dI : Nat → Nat → Nat) (sz : Nat) (hfl : l.stackTraces = false) (h0 : Nat) (w : Nat) (sg : Nat) (ro : Nat) (tr : Nat) (gX : Nat → Nat) (kd : Nat) (gW : Nat → Nat) (a0 : Int32) : vx_Met l yX11_needPort (Cond.code yX11_needPort cX11_needPort 2 none :: gU) ({ frames := 6, cells := 1, slots := 6, locals := 82 }) (gPZ dC dI sz [(h0, .inr (11, oX w sg ro tr gX)), (w, .inr (10, oW kd gW 0 0))] [] (va_A [] sz) [.ref h0, .int a0]) (va_Qv (fun (_ : Unit) => False) (fun _ _ => True) (va_A [] sz)) (vx_X (fun _ : Unit => True) (fun E9 _ _ => E9 = "java/lang/IndexOutOfBoundsException") (va_A [] sz)) 1 6 (va_A [] sz) := by
  refine vx_ofW (cc := cX11_needPort) (maxL := 2) (ret := none) (by decide) rfl ?_
  intro p e s m args below meth c s₁ B hml ht0 hv
  obtain ⟨rfl, hsz, hP, hK, hD0, hE, hZ⟩ := hv
  have hx := B.exec
  have hb := B.bytes
  have hr := B.returns
  have hts0 := atoms_spec (ws := Cond.code yX11_needPort cX11_needPort 2 none :: gU) B.pre
  have hts : ∀ w ∈ gU, w.before _ s = true := fun w h => hts0 w (List.mem_cons_of_mem _ h)
  have hown : s.vm.findClass RX11 = some m.cls := findClass_of_methodNamed B.named
  have hlocks := B.notSynchronized
  subst hsz
  have hD := hD0
  generalize hAe : va_A [] s.heap.size = A at hZ ⊢
  have hA : ∀ q : Nat, s.heap.size ≤ q → A q := fun q h => by rw [← hAe]; exact Or.inr h
  have hS : va_S A s.heap s.heap [] := va_S.rf
  have hP : va_P (dC, dI) vwCl [(h0, .inr (11, oX w sg ro tr gX)), (w, .inr (10, oW kd gW 0 0))] s.heap := hP
  have hl := lv_entry ([.ref h0, .int a0]) (n := 2) (Nat.le_of_ble_eq_true rfl)
  rw [lg_entry_eq]
  generalize (lg_sl ([.ref h0, .int a0]) ++ List.replicate (2 - (lg_sl ([.ref h0, .int a0])).length) Slot.unset).toArray = ls at hl ⊢
  have hl : lv_has ls 2 [(0, .ref h0), (1, .int a0)] := hl
  refine lv_aload_n hx hb dX11_needPort_0 rfl (lv_at hl 0 rfl) ?_
  refine va_get (D := (dC, dI)) (ci := 11) (v := .ref w) (C := RX11) (T := TX11) (N := 7) hx hb hts gX11 hown hK hP 0 rfl rfl 0 (by decide) (hts _ u_474) (fun _ h9 => h9) rfl dX11_needPort_1 ?_
  refine lv_iload_n hx hb dX11_needPort_4 rfl (lv_at hl 1 rfl) ?_
  have hPc := hP.sub (ws' := [(w, .inr (10, oW kd gW 0 0))]) [1] rfl
  have hDc := hD.sub (ws' := [(w, .inr (10, oW kd gW 0 0))]) [1] (by decide) rfl
  have hKc := hK.sub (tys' := []) [] rfl
  have hFc := roF hS hA
  refine va_calli (va_runV (As := [.int a0]) (rest := []) ⟨hx, hb, hml, hown, hts⟩ (c_X10_hasPort l dC dI s.heap.size w kd gW a0) (cwV 1 hts (gV u_615 u_616 u_617 u_2 u_618) rfl rfl rfl (by decide +kernel) ⟨Nat.le_of_ble_eq_true rfl, Nat.le_of_ble_eq_true rfl⟩) ⟨gP_blind, va_recv hKc hPc (ci := 10) (q0 := 0) rfl rfl, gP_call hPc hKc hDc hE⟩ rfl rfl hl.1 rfl (lv_room (Nat.le_of_ble_eq_true rfl)) dX11_needPort_5 ⟨(Nat.le_of_ble_eq_true rfl), (Nat.le_of_ble_eq_true rfl)⟩) hS (fun q _ h => hFc q h) hFc (fun r12 u9 t9 H11 locs ht hvm hw hB hz1 hk1 hS => ?_)
  have hP := roP hP hk1
  subst hw
  refine lv_if_ne (tgt := 21) hx hb dX11_needPort_8 (by decide) (fun h9 => absurd (by decide) h9) (fun _ => ?_)
  obtain ⟨sa9, hstr⟩ := hE.2.2.2.2.2.2.1
  exact vx_throwS (own := RX11) (A := A) (cls := "java/lang/IndexOutOfBoundsException") (text := "no such port") (names := ["java/lang/RuntimeException", "java/lang/Exception"]) hx hb hfl hown (by decide +kernel) (by decide +kernel) (hts _ u_629) (hts _ u_20) hstr (vx_hat (B := gN) (fun w hw => hts w (thrI0 w hw)) thrI1 (fun w hw => va_Nw.use (gN_ot w hw) (hE.1 w hw))) thrI2 hZ.1 hZ.2 hS (by rw [hml]; exact hl.1) dX11_needPort_11 dX11_needPort_14 dX11_needPort_15 dX11_needPort_17 dX11_needPort_20 (fun x h => (ht0 x h).elim) (Nat.le_of_ble_eq_true rfl) (Nat.le_of_ble_eq_true rfl) (Nat.le_of_ble_eq_true rfl) (Nat.le_of_ble_eq_true rfl) hlocks (fun t _ h1 h2 => ⟨(), trivial, rfl, ⟨Nat.le_trans hS.1 h1, fun q hq hn => (h2 q (Nat.lt_of_lt_of_le hq hS.1)).trans (hS.2.1 q hq hn)⟩⟩) hS.2.2 (Nat.le_of_ble_eq_true rfl) (Nat.le_of_ble_eq_true rfl)
set_option maxHeartbeats 4000000 in
set_option maxRecDepth 100000 in
theorem c_X11_needCable (l : Launch) (dC : Nat → ClassId) (dI : Nat → Nat → Nat) (sz : Nat) (hfl : l.stackTraces = false) (h0 : Nat) (w : Nat) (sg : Nat) (ro : Nat) (tr : Nat) (gX : Nat → Nat) (kd : Nat) (gW : Nat → Nat) (a0 : Int32) : vx_Met l yX11_needCable (Cond.code yX11_needCable cX11_needCable 2 none :: gU) ({ frames := 6, cells := 1, slots := 6, locals := 82 }) (gPZ dC dI sz [(h0, .inr (11, oX w sg ro tr gX)), (w, .inr (10, oW kd gW 0 0))] [] (va_A [] sz) [.ref h0, .int a0]) (va_Qv (fun (_ : Unit) => False) (fun _ _ => True) (va_A [] sz)) (vx_X (fun _ : Unit => True) (fun E9 _ _ => E9 = "java/lang/IndexOutOfBoundsException") (va_A [] sz)) 1 6 (va_A [] sz) := by
  refine vx_ofW (cc := cX11_needCable) (maxL := 2) (ret := none) (by decide) rfl ?_
  intro p e s m args below meth c s₁ B hml ht0 hv
  obtain ⟨rfl, hsz, hP, hK, hD0, hE, hZ⟩ := hv
  have hx := B.exec
  have hb := B.bytes
  have hr := B.returns
  have hts0 := atoms_spec (ws := Cond.code yX11_needCable cX11_needCable 2 none :: gU) B.pre
  have hts : ∀ w ∈ gU, w.before _ s = true := fun w h => hts0 w (List.mem_cons_of_mem _ h)
  have hown : s.vm.findClass RX11 = some m.cls := findClass_of_methodNamed B.named
  have hlocks := B.notSynchronized
  subst hsz
  have hD := hD0
  generalize hAe : va_A [] s.heap.size = A at hZ ⊢
  have hA : ∀ q : Nat, s.heap.size ≤ q → A q := fun q h => by rw [← hAe]; exact Or.inr h
  have hS : va_S A s.heap s.heap [] := va_S.rf
  have hP : va_P (dC, dI) vwCl [(h0, .inr (11, oX w sg ro tr gX)), (w, .inr (10, oW kd gW 0 0))] s.heap := hP
  have hl := lv_entry ([.ref h0, .int a0]) (n := 2) (Nat.le_of_ble_eq_true rfl)
  rw [lg_entry_eq]
  generalize (lg_sl ([.ref h0, .int a0]) ++ List.replicate (2 - (lg_sl ([.ref h0, .int a0])).length) Slot.unset).toArray = ls at hl ⊢
  have hl : lv_has ls 2 [(0, .ref h0), (1, .int a0)] := hl
  refine lv_iload_n hx hb dX11_needCable_0 rfl (lv_at hl 1 rfl) ?_
  refine lv_if_lt (tgt := 15) hx hb dX11_needCable_1 (by decide) (fun h1 => ?_) (fun h1 => ?_)
  · obtain ⟨sa9, hstr⟩ := hE.2.2.2.2.2.2.2.1
    exact vx_throwS (own := RX11) (A := A) (cls := "java/lang/IndexOutOfBoundsException") (text := "no such cable") (names := ["java/lang/RuntimeException", "java/lang/Exception"]) hx hb hfl hown (by decide +kernel) (by decide +kernel) (hts _ u_629) (hts _ u_20) hstr (vx_hat (B := gN) (fun w hw => hts w (thrI0 w hw)) thrI1 (fun w hw => va_Nw.use (gN_ot w hw) (hE.1 w hw))) thrI2 hZ.1 hZ.2 hS (by rw [hml]; exact hl.1) dX11_needCable_15 dX11_needCable_18 dX11_needCable_19 dX11_needCable_21 dX11_needCable_24 (fun x h => (ht0 x h).elim) (Nat.le_of_ble_eq_true rfl) (Nat.le_of_ble_eq_true rfl) (Nat.le_of_ble_eq_true rfl) (Nat.le_of_ble_eq_true rfl) hlocks (fun t _ h1 h2 => ⟨(), trivial, rfl, ⟨Nat.le_trans hS.1 h1, fun q hq hn => (h2 q (Nat.lt_of_lt_of_le hq hS.1)).trans (hS.2.1 q hq hn)⟩⟩) hS.2.2 (Nat.le_of_ble_eq_true rfl) (Nat.le_of_ble_eq_true rfl)
  · refine lv_iload_n hx hb dX11_needCable_4 rfl (lv_at hl 1 rfl) ?_
    refine lv_aload_n hx hb dX11_needCable_5 rfl (lv_at hl 0 rfl) ?_
    refine va_get (D := (dC, dI)) (ci := 11) (v := .ref w) (C := RX11) (T := TX11) (N := 7) hx hb hts gX11 hown hK hP 0 rfl rfl 0 (by decide) (hts _ u_474) (fun _ h9 => h9) rfl dX11_needCable_6 ?_
    refine va_getN (D := (dC, dI)) (ci := 10) (v := .int 0) (C := RX10) (T := TX10) (N := 11) hx hb hts gX10 hown hK hP 1 rfl rfl 1 (by decide) (va_Nw.use rfl (hE.1 _ n_0)) (fun _ h9 => h9) rfl dX11_needCable_9 ?_
    refine lv_icmp_lt (tgt := 25) hx hb dX11_needCable_12 (by decide) (fun h9 => absurd h9 h1) (fun _ => ?_)
    obtain ⟨sa9, hstr⟩ := hE.2.2.2.2.2.2.2.1
    exact vx_throwS (own := RX11) (A := A) (cls := "java/lang/IndexOutOfBoundsException") (text := "no such cable") (names := ["java/lang/RuntimeException", "java/lang/Exception"]) hx hb hfl hown (by decide +kernel) (by decide +kernel) (hts _ u_629) (hts _ u_20) hstr (vx_hat (B := gN) (fun w hw => hts w (thrI0 w hw)) thrI1 (fun w hw => va_Nw.use (gN_ot w hw) (hE.1 w hw))) thrI2 hZ.1 hZ.2 hS (by rw [hml]; exact hl.1) dX11_needCable_15 dX11_needCable_18 dX11_needCable_19 dX11_needCable_21 dX11_needCable_24 (fun x h => (ht0 x h).elim) (Nat.le_of_ble_eq_true rfl) (Nat.le_of_ble_eq_true rfl) (Nat.le_of_ble_eq_true rfl) (Nat.le_of_ble_eq_true rfl) hlocks (fun t _ h1 h2 => ⟨(), trivial, rfl, ⟨Nat.le_trans hS.1 h1, fun q hq hn => (h2 q (Nat.lt_of_lt_of_le hq hS.1)).trans (hS.2.1 q hq hn)⟩⟩) hS.2.2 (Nat.le_of_ble_eq_true rfl) (Nat.le_of_ble_eq_true rfl)
set_option maxHeartbeats 4000000 in
set_option maxRecDepth 100000 in
theorem c_X11_needPacket (l : Launch) (dC : Nat → ClassId) (dI : Nat → Nat → Nat) (sz : Nat) (hfl : l.stackTraces = false) (h0 : Nat) (w : Nat) (sg : Nat) (ro : Nat) (tr : Nat) (gX : Nat → Nat) (gT : Nat → Nat) (a0 : Int32) : vx_Met l yX11_needPacket (Cond.code yX11_needPacket cX11_needPacket 2 none :: gU) ({ frames := 6, cells := 1, slots := 6, locals := 82 }) (gPZ dC dI sz [(h0, .inr (11, oX w sg ro tr gX)), (tr, .inr (9, oT w sg ro gT 0 0 0 0))] [] (va_A [] sz) [.ref h0, .int a0]) (va_Qv (fun (_ : Unit) => False) (fun _ _ => True) (va_A [] sz)) (vx_X (fun _ : Unit => True) (fun E9 _ _ => E9 = "java/lang/IndexOutOfBoundsException") (va_A [] sz)) 1 6 (va_A [] sz) := by
  refine vx_ofW (cc := cX11_needPacket) (maxL := 2) (ret := none) (by decide) rfl ?_
  intro p e s m args below meth c s₁ B hml ht0 hv
  obtain ⟨rfl, hsz, hP, hK, hD0, hE, hZ⟩ := hv
  have hx := B.exec
  have hb := B.bytes
  have hr := B.returns
  have hts0 := atoms_spec (ws := Cond.code yX11_needPacket cX11_needPacket 2 none :: gU) B.pre
  have hts : ∀ w ∈ gU, w.before _ s = true := fun w h => hts0 w (List.mem_cons_of_mem _ h)
  have hown : s.vm.findClass RX11 = some m.cls := findClass_of_methodNamed B.named
  have hlocks := B.notSynchronized
  subst hsz
  have hD := hD0
  generalize hAe : va_A [] s.heap.size = A at hZ ⊢
  have hA : ∀ q : Nat, s.heap.size ≤ q → A q := fun q h => by rw [← hAe]; exact Or.inr h
  have hS : va_S A s.heap s.heap [] := va_S.rf
  have hP : va_P (dC, dI) vwCl [(h0, .inr (11, oX w sg ro tr gX)), (tr, .inr (9, oT w sg ro gT 0 0 0 0))] s.heap := hP
  have hl := lv_entry ([.ref h0, .int a0]) (n := 2) (Nat.le_of_ble_eq_true rfl)
  rw [lg_entry_eq]
  generalize (lg_sl ([.ref h0, .int a0]) ++ List.replicate (2 - (lg_sl ([.ref h0, .int a0])).length) Slot.unset).toArray = ls at hl ⊢
  have hl : lv_has ls 2 [(0, .ref h0), (1, .int a0)] := hl
  refine lv_iload_n hx hb dX11_needPacket_0 rfl (lv_at hl 1 rfl) ?_
  refine lv_if_lt (tgt := 15) hx hb dX11_needPacket_1 (by decide) (fun h1 => ?_) (fun h1 => ?_)
  · obtain ⟨sa9, hstr⟩ := hE.2.2.2.2.2.2.2.2.1
    exact vx_throwS (own := RX11) (A := A) (cls := "java/lang/IndexOutOfBoundsException") (text := "no such packet") (names := ["java/lang/RuntimeException", "java/lang/Exception"]) hx hb hfl hown (by decide +kernel) (by decide +kernel) (hts _ u_629) (hts _ u_20) hstr (vx_hat (B := gN) (fun w hw => hts w (thrI0 w hw)) thrI1 (fun w hw => va_Nw.use (gN_ot w hw) (hE.1 w hw))) thrI2 hZ.1 hZ.2 hS (by rw [hml]; exact hl.1) dX11_needPacket_15 dX11_needPacket_18 dX11_needPacket_19 dX11_needPacket_21 dX11_needPacket_24 (fun x h => (ht0 x h).elim) (Nat.le_of_ble_eq_true rfl) (Nat.le_of_ble_eq_true rfl) (Nat.le_of_ble_eq_true rfl) (Nat.le_of_ble_eq_true rfl) hlocks (fun t _ h1 h2 => ⟨(), trivial, rfl, ⟨Nat.le_trans hS.1 h1, fun q hq hn => (h2 q (Nat.lt_of_lt_of_le hq hS.1)).trans (hS.2.1 q hq hn)⟩⟩) hS.2.2 (Nat.le_of_ble_eq_true rfl) (Nat.le_of_ble_eq_true rfl)
  · refine lv_iload_n hx hb dX11_needPacket_4 rfl (lv_at hl 1 rfl) ?_
    refine lv_aload_n hx hb dX11_needPacket_5 rfl (lv_at hl 0 rfl) ?_
    refine va_get (D := (dC, dI)) (ci := 11) (v := .ref tr) (C := RX11) (T := TX11) (N := 7) hx hb hts gX11 hown hK hP 0 rfl rfl 5 (by decide) (hts _ u_479) (fun _ h9 => h9) rfl dX11_needPacket_6 ?_
    refine va_getN (D := (dC, dI)) (ci := 9) (v := .int 0) (C := RX9) (T := TX9) (N := 19) hx hb hts gX9 hown hK hP 1 rfl rfl 11 (by decide) (va_Nw.use rfl (hE.1 _ n_1)) (fun _ h9 => h9) rfl dX11_needPacket_9 ?_
    refine lv_icmp_lt (tgt := 25) hx hb dX11_needPacket_12 (by decide) (fun h9 => absurd h9 h1) (fun _ => ?_)
    obtain ⟨sa9, hstr⟩ := hE.2.2.2.2.2.2.2.2.1
    exact vx_throwS (own := RX11) (A := A) (cls := "java/lang/IndexOutOfBoundsException") (text := "no such packet") (names := ["java/lang/RuntimeException", "java/lang/Exception"]) hx hb hfl hown (by decide +kernel) (by decide +kernel) (hts _ u_629) (hts _ u_20) hstr (vx_hat (B := gN) (fun w hw => hts w (thrI0 w hw)) thrI1 (fun w hw => va_Nw.use (gN_ot w hw) (hE.1 w hw))) thrI2 hZ.1 hZ.2 hS (by rw [hml]; exact hl.1) dX11_needPacket_15 dX11_needPacket_18 dX11_needPacket_19 dX11_needPacket_21 dX11_needPacket_24 (fun x h => (ht0 x h).elim) (Nat.le_of_ble_eq_true rfl) (Nat.le_of_ble_eq_true rfl) (Nat.le_of_ble_eq_true rfl) (Nat.le_of_ble_eq_true rfl) hlocks (fun t _ h1 h2 => ⟨(), trivial, rfl, ⟨Nat.le_trans hS.1 h1, fun q hq hn => (h2 q (Nat.lt_of_lt_of_le hq hS.1)).trans (hS.2.1 q hq hn)⟩⟩) hS.2.2 (Nat.le_of_ble_eq_true rfl) (Nat.le_of_ble_eq_true rfl)
end
section
theorem dX11_address_0 : decode cX11_address 0 = .ok (.aload_n 0, 1) := by decide +kernel
theorem dX11_address_1 : decode cX11_address 1 = .ok (.iload_n 1, 1) := by decide +kernel
theorem dX11_address_2 : decode cX11_address 2 = .ok (.invokevirtual 75, 3) := by decide +kernel
theorem dX11_cable_0 : decode cX11_cable 0 = .ok (.aload_n 0, 1) := by decide +kernel
theorem dX11_cable_1 : decode cX11_cable 1 = .ok (.iload_n 1, 1) := by decide +kernel
theorem dX11_cable_2 : decode cX11_cable 2 = .ok (.invokevirtual 75, 3) := by decide +kernel
theorem dX11_fate_0 : decode cX11_fate 0 = .ok (.aload_n 0, 1) := by decide +kernel
theorem dX11_fate_1 : decode cX11_fate 1 = .ok (.iload_n 1, 1) := by decide +kernel
theorem dX11_fate_2 : decode cX11_fate 2 = .ok (.invokevirtual 175, 3) := by decide +kernel
theorem dX11_gateway_0 : decode cX11_gateway 0 = .ok (.aload_n 0, 1) := by decide +kernel
theorem dX11_gateway_1 : decode cX11_gateway 1 = .ok (.iload_n 1, 1) := by decide +kernel
theorem dX11_gateway_2 : decode cX11_gateway 2 = .ok (.invokevirtual 130, 3) := by decide +kernel
theorem dX11_isBlocked_0 : decode cX11_isBlocked 0 = .ok (.aload_n 0, 1) := by decide +kernel
theorem dX11_isBlocked_1 : decode cX11_isBlocked 1 = .ok (.iload_n 1, 1) := by decide +kernel
theorem dX11_isBlocked_2 : decode cX11_isBlocked 2 = .ok (.invokevirtual 89, 3) := by decide +kernel
theorem dX11_learnt_0 : decode cX11_learnt 0 = .ok (.aload_n 0, 1) := by decide +kernel
theorem dX11_learnt_1 : decode cX11_learnt 1 = .ok (.iload_n 1, 1) := by decide +kernel
theorem dX11_learnt_2 : decode cX11_learnt 2 = .ok (.invokevirtual 130, 3) := by decide +kernel
theorem dX11_net_0 : decode cX11_net 0 = .ok (.aload_n 0, 1) := by decide +kernel
theorem dX11_net_1 : decode cX11_net 1 = .ok (.iload_n 1, 1) := by decide +kernel
theorem dX11_net_2 : decode cX11_net 2 = .ok (.invokevirtual 75, 3) := by decide +kernel
theorem dX11_noted_0 : decode cX11_noted 0 = .ok (.aload_n 0, 1) := by decide +kernel
theorem dX11_noted_1 : decode cX11_noted 1 = .ok (.iload_n 1, 1) := by decide +kernel
theorem dX11_noted_2 : decode cX11_noted 2 = .ok (.invokevirtual 130, 3) := by decide +kernel
theorem dX11_pool_0 : decode cX11_pool 0 = .ok (.aload_n 0, 1) := by decide +kernel
theorem dX11_pool_1 : decode cX11_pool 1 = .ok (.iload_n 1, 1) := by decide +kernel
theorem dX11_pool_2 : decode cX11_pool 2 = .ok (.invokevirtual 75, 3) := by decide +kernel
theorem dX11_proved_0 : decode cX11_proved 0 = .ok (.aload_n 0, 1) := by decide +kernel
theorem dX11_proved_1 : decode cX11_proved 1 = .ok (.iload_n 1, 1) := by decide +kernel
theorem dX11_proved_2 : decode cX11_proved 2 = .ok (.invokevirtual 130, 3) := by decide +kernel
theorem dX11_reach_0 : decode cX11_reach 0 = .ok (.aload_n 0, 1) := by decide +kernel
theorem dX11_reach_1 : decode cX11_reach 1 = .ok (.iload_n 1, 1) := by decide +kernel
theorem dX11_reach_2 : decode cX11_reach 2 = .ok (.invokevirtual 130, 3) := by decide +kernel
theorem dX11_reachAnew_0 : decode cX11_reachAnew 0 = .ok (.aload_n 0, 1) := by decide +kernel
theorem dX11_reachAnew_1 : decode cX11_reachAnew 1 = .ok (.iload_n 1, 1) := by decide +kernel
theorem dX11_reachAnew_2 : decode cX11_reachAnew 2 = .ok (.invokevirtual 130, 3) := by decide +kernel
theorem dX11_route_0 : decode cX11_route 0 = .ok (.aload_n 0, 1) := by decide +kernel
theorem dX11_route_1 : decode cX11_route 1 = .ok (.iload_n 1, 1) := by decide +kernel
theorem dX11_route_2 : decode cX11_route 2 = .ok (.invokevirtual 130, 3) := by decide +kernel
theorem dX11_rule_0 : decode cX11_rule 0 = .ok (.aload_n 0, 1) := by decide +kernel
theorem dX11_rule_1 : decode cX11_rule 1 = .ok (.iload_n 1, 1) := by decide +kernel
theorem dX11_rule_2 : decode cX11_rule 2 = .ok (.invokevirtual 130, 3) := by decide +kernel
theorem dX11_sees_0 : decode cX11_sees 0 = .ok (.aload_n 0, 1) := by decide +kernel
theorem dX11_sees_1 : decode cX11_sees 1 = .ok (.iload_n 1, 1) := by decide +kernel
theorem dX11_sees_2 : decode cX11_sees 2 = .ok (.invokevirtual 75, 3) := by decide +kernel
theorem dX11_send_0 : decode cX11_send 0 = .ok (.aload_n 0, 1) := by decide +kernel
theorem dX11_send_1 : decode cX11_send 1 = .ok (.iload_n 1, 1) := by decide +kernel
theorem dX11_send_2 : decode cX11_send 2 = .ok (.invokevirtual 130, 3) := by decide +kernel
theorem dX11_source_0 : decode cX11_source 0 = .ok (.aload_n 0, 1) := by decide +kernel
theorem dX11_source_1 : decode cX11_source 1 = .ok (.iload_n 1, 1) := by decide +kernel
theorem dX11_source_2 : decode cX11_source 2 = .ok (.invokevirtual 175, 3) := by decide +kernel
theorem dX11_turn_0 : decode cX11_turn 0 = .ok (.aload_n 0, 1) := by decide +kernel
theorem dX11_turn_1 : decode cX11_turn 1 = .ok (.iload_n 1, 1) := by decide +kernel
theorem dX11_turn_2 : decode cX11_turn 2 = .ok (.invokevirtual 89, 3) := by decide +kernel
theorem dX11_watch_0 : decode cX11_watch 0 = .ok (.aload_n 0, 1) := by decide +kernel
theorem dX11_watch_1 : decode cX11_watch 1 = .ok (.iload_n 1, 1) := by decide +kernel
theorem dX11_watch_2 : decode cX11_watch 2 = .ok (.invokevirtual 130, 3) := by decide +kernel
theorem dX11_way_0 : decode cX11_way 0 = .ok (.aload_n 0, 1) := by decide +kernel
theorem dX11_way_1 : decode cX11_way 1 = .ok (.iload_n 1, 1) := by decide +kernel
theorem dX11_way_2 : decode cX11_way 2 = .ok (.invokevirtual 130, 3) := by decide +kernel
theorem dX11_where_0 : decode cX11_where 0 = .ok (.aload_n 0, 1) := by decide +kernel
theorem dX11_where_1 : decode cX11_where 1 = .ok (.iload_n 1, 1) := by decide +kernel
theorem dX11_where_2 : decode cX11_where 2 = .ok (.invokevirtual 175, 3) := by decide +kernel
theorem u_611 : Cond.methodLink RX11 75 yX11_needPort ∈ gU := gm (i := 611) (by decide +kernel) (by decide +kernel)
theorem u_613 : Cond.instanceMethod yX11_needPort ∈ gU := gm (i := 613) (by decide +kernel) (by decide +kernel)
theorem u_614 : Cond.code yX11_needPort cX11_needPort 2 none ∈ gU := gm (i := 614) (by decide +kernel) (by decide +kernel)
theorem u_701 : Cond.methodLink RX11 89 yX11_needCable ∈ gU := gm (i := 701) (by decide +kernel) (by decide +kernel)
theorem u_703 : Cond.instanceMethod yX11_needCable ∈ gU := gm (i := 703) (by decide +kernel) (by decide +kernel)
theorem u_704 : Cond.code yX11_needCable cX11_needCable 2 none ∈ gU := gm (i := 704) (by decide +kernel) (by decide +kernel)
theorem u_782 : Cond.methodLink RX11 130 yX11_needBox ∈ gU := gm (i := 782) (by decide +kernel) (by decide +kernel)
theorem u_784 : Cond.instanceMethod yX11_needBox ∈ gU := gm (i := 784) (by decide +kernel) (by decide +kernel)
theorem u_785 : Cond.code yX11_needBox cX11_needBox 2 none ∈ gU := gm (i := 785) (by decide +kernel) (by decide +kernel)
theorem u_1052 : Cond.methodLink RX11 175 yX11_needPacket ∈ gU := gm (i := 1052) (by decide +kernel) (by decide +kernel)
theorem u_1054 : Cond.instanceMethod yX11_needPacket ∈ gU := gm (i := 1054) (by decide +kernel) (by decide +kernel)
theorem u_1055 : Cond.code yX11_needPacket cX11_needPacket 2 none ∈ gU := gm (i := 1055) (by decide +kernel) (by decide +kernel)
theorem v_1 : Cond.selects RX11 yX11_needPort yX11_needPort ∈ gU := gp (i := 1) (q := (yX11_needPort, 7)) (by decide +kernel) (by decide +kernel)
theorem v_10 : Cond.selects RX11 yX11_needCable yX11_needCable ∈ gU := gp (i := 10) (q := (yX11_needCable, 7)) (by decide +kernel) (by decide +kernel)
theorem v_12 : Cond.selects RX11 yX11_needBox yX11_needBox ∈ gU := gp (i := 12) (q := (yX11_needBox, 7)) (by decide +kernel) (by decide +kernel)
theorem v_27 : Cond.selects RX11 yX11_needPacket yX11_needPacket ∈ gU := gp (i := 27) (q := (yX11_needPacket, 7)) (by decide +kernel) (by decide +kernel)
set_option maxHeartbeats 4000000 in
set_option maxRecDepth 100000 in
theorem c_X11_cable (l : Launch) (dC : Nat → ClassId) (dI : Nat → Nat → Nat) (sz : Nat) (hfl : l.stackTraces = false) (h0 : Nat) (w : Nat) (sg : Nat) (ro : Nat) (tr : Nat) (gX : Nat → Nat) (kd : Nat) (gW : Nat → Nat) (a0 : Int32) (a1 : Int32) : vx_Met l yX11_cable (Cond.code yX11_cable cX11_cable 4 (some .int) :: gU) ({ frames := 7, cells := 1, slots := 6, locals := 103 }) (gPZ dC dI sz [(h0, .inr (11, oX w sg ro tr gX)), (w, .inr (10, oW kd gW 0 0))] [] (va_A [] sz) [.ref h0, .int a0, .int a1]) (va_Qi (fun (r : Int32) (_ : Unit) => False) (fun _ _ => True) (va_A [] sz)) (vx_X (fun _ : Unit => True) (fun E9 _ _ => E9 = "java/lang/IndexOutOfBoundsException") (va_A [] sz)) 1 6 (va_A [] sz) := by
  refine vx_ofW (cc := cX11_cable) (maxL := 4) (ret := (some .int)) (by decide) rfl ?_
  intro p e s m args below meth c s₁ B hml ht0 hv
  obtain ⟨rfl, hsz, hP, hK, hD0, hE, hZ⟩ := hv
  have hx := B.exec
  have hb := B.bytes
  have hr := B.returns
  have hts0 := atoms_spec (ws := Cond.code yX11_cable cX11_cable 4 (some .int) :: gU) B.pre
  have hts : ∀ w ∈ gU, w.before _ s = true := fun w h => hts0 w (List.mem_cons_of_mem _ h)
  have hown : s.vm.findClass RX11 = some m.cls := findClass_of_methodNamed B.named
  have hlocks := B.notSynchronized
  subst hsz
  have hD := hD0
  generalize hAe : va_A [] s.heap.size = A at hZ ⊢
  have hA : ∀ q : Nat, s.heap.size ≤ q → A q := fun q h => by rw [← hAe]; exact Or.inr h
  have hS : va_S A s.heap s.heap [] := va_S.rf
  have hP : va_P (dC, dI) vwCl [(h0, .inr (11, oX w sg ro tr gX)), (w, .inr (10, oW kd gW 0 0))] s.heap := hP
  have hl := lv_entry ([.ref h0, .int a0, .int a1]) (n := 4) (Nat.le_of_ble_eq_true rfl)
  rw [lg_entry_eq]
  generalize (lg_sl ([.ref h0, .int a0, .int a1]) ++ List.replicate (4 - (lg_sl ([.ref h0, .int a0, .int a1])).length) Slot.unset).toArray = ls at hl ⊢
  have hl : lv_has ls 4 [(0, .ref h0), (1, .int a0), (2, .int a1)] := hl
  refine lv_aload_n hx hb dX11_cable_0 rfl (lv_at hl 0 rfl) ?_
  refine lv_iload_n hx hb dX11_cable_1 rfl (lv_at hl 1 rfl) ?_
  have hPc := hP.sub (ws' := [(h0, .inr (11, oX w sg ro tr gX)), (w, .inr (10, oW kd gW 0 0))]) [0, 1] rfl
  have hDc := hD.sub (ws' := [(h0, .inr (11, oX w sg ro tr gX)), (w, .inr (10, oW kd gW 0 0))]) [0, 1] (by decide) rfl
  have hKc := hK.sub (tys' := []) [] rfl
  have hFc := roF hS hA
  refine vx_callv (vx_runV (As := [.int a0]) (rest := []) ⟨hx, hb, hml, hown, hts⟩ (c_X11_needPort l dC dI s.heap.size hfl h0 w sg ro tr gX kd gW a0) (cwV 1 hts (gV u_611 u_613 v_1 u_1 u_614) rfl rfl rfl (by decide +kernel) ⟨Nat.le_of_ble_eq_true rfl, Nat.le_of_ble_eq_true rfl⟩) ⟨gPZ_blind, va_recv hKc hPc (ci := 11) (q0 := 0) rfl rfl, gPZ_call hPc hKc hDc hE hZ hS hFc⟩ rfl rfl hl.1 rfl (lv_room (Nat.le_of_ble_eq_true rfl)) dX11_cable_2 ⟨(Nat.le_of_ble_eq_true rfl), (Nat.le_of_ble_eq_true rfl)⟩) hS (fun q _ h => hFc q h) hFc (fun q _ h => hFc q h) (fun E9 ce9 q15 u9 t9 H13 locs ht hvm hpx hBX hz1 hk1 hS hce hcv hcl => ?_) (fun u9 t9 H13 locs ht hvm hw hB hz1 hk1 hS => hw.elim)
  exact vx_out (fun x h => (ht0 x h).elim) hlocks hce hcv hcl (fun t ht _ => ⟨(), trivial, hBX, hS.F ht⟩) hS.2.2 (Nat.le_of_ble_eq_true rfl) (Nat.le_of_ble_eq_true rfl)
set_option maxHeartbeats 4000000 in
set_option maxRecDepth 100000 in
theorem c_X11_turn (l : Launch) (dC : Nat → ClassId) (dI : Nat → Nat → Nat) (sz : Nat) (hfl : l.stackTraces = false) (h0 : Nat) (w : Nat) (sg : Nat) (ro : Nat) (tr : Nat) (gX : Nat → Nat) (kd : Nat) (gW : Nat → Nat) (a0 : Int32) : vx_Met l yX11_turn (Cond.code yX11_turn cX11_turn 2 (some .boolean) :: gU) ({ frames := 7, cells := 1, slots := 6, locals := 103 }) (gPZ dC dI sz [(h0, .inr (11, oX w sg ro tr gX)), (w, .inr (10, oW kd gW 0 0))] [] (va_A [] sz) [.ref h0, .int a0]) (va_Qi (fun (r : Int32) (_ : Unit) => False) (fun _ _ => True) (va_A [] sz)) (vx_X (fun _ : Unit => True) (fun E9 _ _ => E9 = "java/lang/IndexOutOfBoundsException") (va_A [] sz)) 1 6 (va_A [] sz) := by
  refine vx_ofW (cc := cX11_turn) (maxL := 2) (ret := (some .boolean)) (by decide) rfl ?_
  intro p e s m args below meth c s₁ B hml ht0 hv
  obtain ⟨rfl, hsz, hP, hK, hD0, hE, hZ⟩ := hv
  have hx := B.exec
  have hb := B.bytes
  have hr := B.returns
  have hts0 := atoms_spec (ws := Cond.code yX11_turn cX11_turn 2 (some .boolean) :: gU) B.pre
  have hts : ∀ w ∈ gU, w.before _ s = true := fun w h => hts0 w (List.mem_cons_of_mem _ h)
  have hown : s.vm.findClass RX11 = some m.cls := findClass_of_methodNamed B.named
  have hlocks := B.notSynchronized
  subst hsz
  have hD := hD0
  generalize hAe : va_A [] s.heap.size = A at hZ ⊢
  have hA : ∀ q : Nat, s.heap.size ≤ q → A q := fun q h => by rw [← hAe]; exact Or.inr h
  have hS : va_S A s.heap s.heap [] := va_S.rf
  have hP : va_P (dC, dI) vwCl [(h0, .inr (11, oX w sg ro tr gX)), (w, .inr (10, oW kd gW 0 0))] s.heap := hP
  have hl := lv_entry ([.ref h0, .int a0]) (n := 2) (Nat.le_of_ble_eq_true rfl)
  rw [lg_entry_eq]
  generalize (lg_sl ([.ref h0, .int a0]) ++ List.replicate (2 - (lg_sl ([.ref h0, .int a0])).length) Slot.unset).toArray = ls at hl ⊢
  have hl : lv_has ls 2 [(0, .ref h0), (1, .int a0)] := hl
  refine lv_aload_n hx hb dX11_turn_0 rfl (lv_at hl 0 rfl) ?_
  refine lv_iload_n hx hb dX11_turn_1 rfl (lv_at hl 1 rfl) ?_
  have hPc := hP.sub (ws' := [(h0, .inr (11, oX w sg ro tr gX)), (w, .inr (10, oW kd gW 0 0))]) [0, 1] rfl
  have hDc := hD.sub (ws' := [(h0, .inr (11, oX w sg ro tr gX)), (w, .inr (10, oW kd gW 0 0))]) [0, 1] (by decide) rfl
  have hKc := hK.sub (tys' := []) [] rfl
  have hFc := roF hS hA
  refine vx_callv (vx_runV (As := [.int a0]) (rest := []) ⟨hx, hb, hml, hown, hts⟩ (c_X11_needCable l dC dI s.heap.size hfl h0 w sg ro tr gX kd gW a0) (cwV 1 hts (gV u_701 u_703 v_10 u_1 u_704) rfl rfl rfl (by decide +kernel) ⟨Nat.le_of_ble_eq_true rfl, Nat.le_of_ble_eq_true rfl⟩) ⟨gPZ_blind, va_recv hKc hPc (ci := 11) (q0 := 0) rfl rfl, gPZ_call hPc hKc hDc hE hZ hS hFc⟩ rfl rfl hl.1 rfl (lv_room (Nat.le_of_ble_eq_true rfl)) dX11_turn_2 ⟨(Nat.le_of_ble_eq_true rfl), (Nat.le_of_ble_eq_true rfl)⟩) hS (fun q _ h => hFc q h) hFc (fun q _ h => hFc q h) (fun E9 ce9 q18 u9 t9 H16 locs ht hvm hpx hBX hz1 hk1 hS hce hcv hcl => ?_) (fun u9 t9 H16 locs ht hvm hw hB hz1 hk1 hS => hw.elim)
  exact vx_out (fun x h => (ht0 x h).elim) hlocks hce hcv hcl (fun t ht _ => ⟨(), trivial, hBX, hS.F ht⟩) hS.2.2 (Nat.le_of_ble_eq_true rfl) (Nat.le_of_ble_eq_true rfl)
set_option maxHeartbeats 4000000 in
set_option maxRecDepth 100000 in
theorem c_X11_isBlocked (l : Launch) (dC : Nat → ClassId) (dI : Nat → Nat → Nat) (sz : Nat) (hfl : l.stackTraces = false) (h0 : Nat) (w : Nat) (sg : Nat) (ro : Nat) (tr : Nat) (gX : Nat → Nat) (kd : Nat) (gW : Nat → Nat) (a0 : Int32) : vx_Met l yX11_isBlocked (Cond.code yX11_isBlocked cX11_isBlocked 2 (some .boolean) :: gU) ({ frames := 7, cells := 1, slots := 6, locals := 103 }) (gPZ dC dI sz [(h0, .inr (11, oX w sg ro tr gX)), (w, .inr (10, oW kd gW 0 0))] [] (va_A [] sz) [.ref h0, .int a0]) (va_Qi (fun (r : Int32) (_ : Unit) => False) (fun _ _ => True) (va_A [] sz)) (vx_X (fun _ : Unit => True) (fun E9 _ _ => E9 = "java/lang/IndexOutOfBoundsException") (va_A [] sz)) 1 6 (va_A [] sz) := by
  refine vx_ofW (cc := cX11_isBlocked) (maxL := 2) (ret := (some .boolean)) (by decide) rfl ?_
  intro p e s m args below meth c s₁ B hml ht0 hv
  obtain ⟨rfl, hsz, hP, hK, hD0, hE, hZ⟩ := hv
  have hx := B.exec
  have hb := B.bytes
  have hr := B.returns
  have hts0 := atoms_spec (ws := Cond.code yX11_isBlocked cX11_isBlocked 2 (some .boolean) :: gU) B.pre
  have hts : ∀ w ∈ gU, w.before _ s = true := fun w h => hts0 w (List.mem_cons_of_mem _ h)
  have hown : s.vm.findClass RX11 = some m.cls := findClass_of_methodNamed B.named
  have hlocks := B.notSynchronized
  subst hsz
  have hD := hD0
  generalize hAe : va_A [] s.heap.size = A at hZ ⊢
  have hA : ∀ q : Nat, s.heap.size ≤ q → A q := fun q h => by rw [← hAe]; exact Or.inr h
  have hS : va_S A s.heap s.heap [] := va_S.rf
  have hP : va_P (dC, dI) vwCl [(h0, .inr (11, oX w sg ro tr gX)), (w, .inr (10, oW kd gW 0 0))] s.heap := hP
  have hl := lv_entry ([.ref h0, .int a0]) (n := 2) (Nat.le_of_ble_eq_true rfl)
  rw [lg_entry_eq]
  generalize (lg_sl ([.ref h0, .int a0]) ++ List.replicate (2 - (lg_sl ([.ref h0, .int a0])).length) Slot.unset).toArray = ls at hl ⊢
  have hl : lv_has ls 2 [(0, .ref h0), (1, .int a0)] := hl
  refine lv_aload_n hx hb dX11_isBlocked_0 rfl (lv_at hl 0 rfl) ?_
  refine lv_iload_n hx hb dX11_isBlocked_1 rfl (lv_at hl 1 rfl) ?_
  have hPc := hP.sub (ws' := [(h0, .inr (11, oX w sg ro tr gX)), (w, .inr (10, oW kd gW 0 0))]) [0, 1] rfl
  have hDc := hD.sub (ws' := [(h0, .inr (11, oX w sg ro tr gX)), (w, .inr (10, oW kd gW 0 0))]) [0, 1] (by decide) rfl
  have hKc := hK.sub (tys' := []) [] rfl
  have hFc := roF hS hA
  refine vx_callv (vx_runV (As := [.int a0]) (rest := []) ⟨hx, hb, hml, hown, hts⟩ (c_X11_needCable l dC dI s.heap.size hfl h0 w sg ro tr gX kd gW a0) (cwV 1 hts (gV u_701 u_703 v_10 u_1 u_704) rfl rfl rfl (by decide +kernel) ⟨Nat.le_of_ble_eq_true rfl, Nat.le_of_ble_eq_true rfl⟩) ⟨gPZ_blind, va_recv hKc hPc (ci := 11) (q0 := 0) rfl rfl, gPZ_call hPc hKc hDc hE hZ hS hFc⟩ rfl rfl hl.1 rfl (lv_room (Nat.le_of_ble_eq_true rfl)) dX11_isBlocked_2 ⟨(Nat.le_of_ble_eq_true rfl), (Nat.le_of_ble_eq_true rfl)⟩) hS (fun q _ h => hFc q h) hFc (fun q _ h => hFc q h) (fun E9 ce9 q21 u9 t9 H19 locs ht hvm hpx hBX hz1 hk1 hS hce hcv hcl => ?_) (fun u9 t9 H19 locs ht hvm hw hB hz1 hk1 hS => hw.elim)
  exact vx_out (fun x h => (ht0 x h).elim) hlocks hce hcv hcl (fun t ht _ => ⟨(), trivial, hBX, hS.F ht⟩) hS.2.2 (Nat.le_of_ble_eq_true rfl) (Nat.le_of_ble_eq_true rfl)
set_option maxHeartbeats 4000000 in
set_option maxRecDepth 100000 in
theorem c_X11_net (l : Launch) (dC : Nat → ClassId) (dI : Nat → Nat → Nat) (sz : Nat) (hfl : l.stackTraces = false) (h0 : Nat) (w : Nat) (sg : Nat) (ro : Nat) (tr : Nat) (gX : Nat → Nat) (kd : Nat) (gW : Nat → Nat) (a0 : Int32) (a1 : Int32) : vx_Met l yX11_net (Cond.code yX11_net cX11_net 4 (some .int) :: gU) ({ frames := 7, cells := 1, slots := 6, locals := 103 }) (gPZ dC dI sz [(h0, .inr (11, oX w sg ro tr gX)), (w, .inr (10, oW kd gW 0 0))] [] (va_A [] sz) [.ref h0, .int a0, .int a1]) (va_Qi (fun (r : Int32) (_ : Unit) => False) (fun _ _ => True) (va_A [] sz)) (vx_X (fun _ : Unit => True) (fun E9 _ _ => E9 = "java/lang/IndexOutOfBoundsException") (va_A [] sz)) 1 6 (va_A [] sz) := by
  refine vx_ofW (cc := cX11_net) (maxL := 4) (ret := (some .int)) (by decide) rfl ?_
  intro p e s m args below meth c s₁ B hml ht0 hv
  obtain ⟨rfl, hsz, hP, hK, hD0, hE, hZ⟩ := hv
  have hx := B.exec
  have hb := B.bytes
  have hr := B.returns
  have hts0 := atoms_spec (ws := Cond.code yX11_net cX11_net 4 (some .int) :: gU) B.pre
  have hts : ∀ w ∈ gU, w.before _ s = true := fun w h => hts0 w (List.mem_cons_of_mem _ h)
  have hown : s.vm.findClass RX11 = some m.cls := findClass_of_methodNamed B.named
  have hlocks := B.notSynchronized
  subst hsz
  have hD := hD0
  generalize hAe : va_A [] s.heap.size = A at hZ ⊢
  have hA : ∀ q : Nat, s.heap.size ≤ q → A q := fun q h => by rw [← hAe]; exact Or.inr h
  have hS : va_S A s.heap s.heap [] := va_S.rf
  have hP : va_P (dC, dI) vwCl [(h0, .inr (11, oX w sg ro tr gX)), (w, .inr (10, oW kd gW 0 0))] s.heap := hP
  have hl := lv_entry ([.ref h0, .int a0, .int a1]) (n := 4) (Nat.le_of_ble_eq_true rfl)
  rw [lg_entry_eq]
  generalize (lg_sl ([.ref h0, .int a0, .int a1]) ++ List.replicate (4 - (lg_sl ([.ref h0, .int a0, .int a1])).length) Slot.unset).toArray = ls at hl ⊢
  have hl : lv_has ls 4 [(0, .ref h0), (1, .int a0), (2, .int a1)] := hl
  refine lv_aload_n hx hb dX11_net_0 rfl (lv_at hl 0 rfl) ?_
  refine lv_iload_n hx hb dX11_net_1 rfl (lv_at hl 1 rfl) ?_
  have hPc := hP.sub (ws' := [(h0, .inr (11, oX w sg ro tr gX)), (w, .inr (10, oW kd gW 0 0))]) [0, 1] rfl
  have hDc := hD.sub (ws' := [(h0, .inr (11, oX w sg ro tr gX)), (w, .inr (10, oW kd gW 0 0))]) [0, 1] (by decide) rfl
  have hKc := hK.sub (tys' := []) [] rfl
  have hFc := roF hS hA
  refine vx_callv (vx_runV (As := [.int a0]) (rest := []) ⟨hx, hb, hml, hown, hts⟩ (c_X11_needPort l dC dI s.heap.size hfl h0 w sg ro tr gX kd gW a0) (cwV 1 hts (gV u_611 u_613 v_1 u_1 u_614) rfl rfl rfl (by decide +kernel) ⟨Nat.le_of_ble_eq_true rfl, Nat.le_of_ble_eq_true rfl⟩) ⟨gPZ_blind, va_recv hKc hPc (ci := 11) (q0 := 0) rfl rfl, gPZ_call hPc hKc hDc hE hZ hS hFc⟩ rfl rfl hl.1 rfl (lv_room (Nat.le_of_ble_eq_true rfl)) dX11_net_2 ⟨(Nat.le_of_ble_eq_true rfl), (Nat.le_of_ble_eq_true rfl)⟩) hS (fun q _ h => hFc q h) hFc (fun q _ h => hFc q h) (fun E9 ce9 q24 u9 t9 H22 locs ht hvm hpx hBX hz1 hk1 hS hce hcv hcl => ?_) (fun u9 t9 H22 locs ht hvm hw hB hz1 hk1 hS => hw.elim)
  exact vx_out (fun x h => (ht0 x h).elim) hlocks hce hcv hcl (fun t ht _ => ⟨(), trivial, hBX, hS.F ht⟩) hS.2.2 (Nat.le_of_ble_eq_true rfl) (Nat.le_of_ble_eq_true rfl)
set_option maxHeartbeats 4000000 in
set_option maxRecDepth 100000 in
theorem c_X11_sees (l : Launch) (dC : Nat → ClassId) (dI : Nat → Nat → Nat) (sz : Nat) (hfl : l.stackTraces = false) (h0 : Nat) (w : Nat) (sg : Nat) (ro : Nat) (tr : Nat) (gX : Nat → Nat) (kd : Nat) (gW : Nat → Nat) (a0 : Int32) (a1 : Int32) : vx_Met l yX11_sees (Cond.code yX11_sees cX11_sees 3 (some .boolean) :: gU) ({ frames := 7, cells := 1, slots := 6, locals := 103 }) (gPZ dC dI sz [(h0, .inr (11, oX w sg ro tr gX)), (w, .inr (10, oW kd gW 0 0))] [] (va_A [] sz) [.ref h0, .int a0, .int a1]) (va_Qi (fun (r : Int32) (_ : Unit) => False) (fun _ _ => True) (va_A [] sz)) (vx_X (fun _ : Unit => True) (fun E9 _ _ => E9 = "java/lang/IndexOutOfBoundsException") (va_A [] sz)) 1 6 (va_A [] sz) := by
  refine vx_ofW (cc := cX11_sees) (maxL := 3) (ret := (some .boolean)) (by decide) rfl ?_
  intro p e s m args below meth c s₁ B hml ht0 hv
  obtain ⟨rfl, hsz, hP, hK, hD0, hE, hZ⟩ := hv
  have hx := B.exec
  have hb := B.bytes
  have hr := B.returns
  have hts0 := atoms_spec (ws := Cond.code yX11_sees cX11_sees 3 (some .boolean) :: gU) B.pre
  have hts : ∀ w ∈ gU, w.before _ s = true := fun w h => hts0 w (List.mem_cons_of_mem _ h)
  have hown : s.vm.findClass RX11 = some m.cls := findClass_of_methodNamed B.named
  have hlocks := B.notSynchronized
  subst hsz
  have hD := hD0
  generalize hAe : va_A [] s.heap.size = A at hZ ⊢
  have hA : ∀ q : Nat, s.heap.size ≤ q → A q := fun q h => by rw [← hAe]; exact Or.inr h
  have hS : va_S A s.heap s.heap [] := va_S.rf
  have hP : va_P (dC, dI) vwCl [(h0, .inr (11, oX w sg ro tr gX)), (w, .inr (10, oW kd gW 0 0))] s.heap := hP
  have hl := lv_entry ([.ref h0, .int a0, .int a1]) (n := 3) (Nat.le_of_ble_eq_true rfl)
  rw [lg_entry_eq]
  generalize (lg_sl ([.ref h0, .int a0, .int a1]) ++ List.replicate (3 - (lg_sl ([.ref h0, .int a0, .int a1])).length) Slot.unset).toArray = ls at hl ⊢
  have hl : lv_has ls 3 [(0, .ref h0), (1, .int a0), (2, .int a1)] := hl
  refine lv_aload_n hx hb dX11_sees_0 rfl (lv_at hl 0 rfl) ?_
  refine lv_iload_n hx hb dX11_sees_1 rfl (lv_at hl 1 rfl) ?_
  have hPc := hP.sub (ws' := [(h0, .inr (11, oX w sg ro tr gX)), (w, .inr (10, oW kd gW 0 0))]) [0, 1] rfl
  have hDc := hD.sub (ws' := [(h0, .inr (11, oX w sg ro tr gX)), (w, .inr (10, oW kd gW 0 0))]) [0, 1] (by decide) rfl
  have hKc := hK.sub (tys' := []) [] rfl
  have hFc := roF hS hA
  refine vx_callv (vx_runV (As := [.int a0]) (rest := []) ⟨hx, hb, hml, hown, hts⟩ (c_X11_needPort l dC dI s.heap.size hfl h0 w sg ro tr gX kd gW a0) (cwV 1 hts (gV u_611 u_613 v_1 u_1 u_614) rfl rfl rfl (by decide +kernel) ⟨Nat.le_of_ble_eq_true rfl, Nat.le_of_ble_eq_true rfl⟩) ⟨gPZ_blind, va_recv hKc hPc (ci := 11) (q0 := 0) rfl rfl, gPZ_call hPc hKc hDc hE hZ hS hFc⟩ rfl rfl hl.1 rfl (lv_room (Nat.le_of_ble_eq_true rfl)) dX11_sees_2 ⟨(Nat.le_of_ble_eq_true rfl), (Nat.le_of_ble_eq_true rfl)⟩) hS (fun q _ h => hFc q h) hFc (fun q _ h => hFc q h) (fun E9 ce9 q27 u9 t9 H25 locs ht hvm hpx hBX hz1 hk1 hS hce hcv hcl => ?_) (fun u9 t9 H25 locs ht hvm hw hB hz1 hk1 hS => hw.elim)
  exact vx_out (fun x h => (ht0 x h).elim) hlocks hce hcv hcl (fun t ht _ => ⟨(), trivial, hBX, hS.F ht⟩) hS.2.2 (Nat.le_of_ble_eq_true rfl) (Nat.le_of_ble_eq_true rfl)
set_option maxHeartbeats 4000000 in
set_option maxRecDepth 100000 in
theorem c_X11_address (l : Launch) (dC : Nat → ClassId) (dI : Nat → Nat → Nat) (sz : Nat) (hfl : l.stackTraces = false) (h0 : Nat) (w : Nat) (sg : Nat) (ro : Nat) (tr : Nat) (gX : Nat → Nat) (kd : Nat) (gW : Nat → Nat) (a0 : Int32) (a1 : Int32) (a2 : Int32) : vx_Met l yX11_address (Cond.code yX11_address cX11_address 5 (some .int) :: gU) ({ frames := 7, cells := 1, slots := 6, locals := 103 }) (gPZ dC dI sz [(h0, .inr (11, oX w sg ro tr gX)), (w, .inr (10, oW kd gW 0 0))] [] (va_A [] sz) [.ref h0, .int a0, .int a1, .int a2]) (va_Qi (fun (r : Int32) (_ : Unit) => False) (fun _ _ => True) (va_A [] sz)) (vx_X (fun _ : Unit => True) (fun E9 _ _ => E9 = "java/lang/IndexOutOfBoundsException") (va_A [] sz)) 1 6 (va_A [] sz) := by
  refine vx_ofW (cc := cX11_address) (maxL := 5) (ret := (some .int)) (by decide) rfl ?_
  intro p e s m args below meth c s₁ B hml ht0 hv
  obtain ⟨rfl, hsz, hP, hK, hD0, hE, hZ⟩ := hv
  have hx := B.exec
  have hb := B.bytes
  have hr := B.returns
  have hts0 := atoms_spec (ws := Cond.code yX11_address cX11_address 5 (some .int) :: gU) B.pre
  have hts : ∀ w ∈ gU, w.before _ s = true := fun w h => hts0 w (List.mem_cons_of_mem _ h)
  have hown : s.vm.findClass RX11 = some m.cls := findClass_of_methodNamed B.named
  have hlocks := B.notSynchronized
  subst hsz
  have hD := hD0
  generalize hAe : va_A [] s.heap.size = A at hZ ⊢
  have hA : ∀ q : Nat, s.heap.size ≤ q → A q := fun q h => by rw [← hAe]; exact Or.inr h
  have hS : va_S A s.heap s.heap [] := va_S.rf
  have hP : va_P (dC, dI) vwCl [(h0, .inr (11, oX w sg ro tr gX)), (w, .inr (10, oW kd gW 0 0))] s.heap := hP
  have hl := lv_entry ([.ref h0, .int a0, .int a1, .int a2]) (n := 5) (Nat.le_of_ble_eq_true rfl)
  rw [lg_entry_eq]
  generalize (lg_sl ([.ref h0, .int a0, .int a1, .int a2]) ++ List.replicate (5 - (lg_sl ([.ref h0, .int a0, .int a1, .int a2])).length) Slot.unset).toArray = ls at hl ⊢
  have hl : lv_has ls 5 [(0, .ref h0), (1, .int a0), (2, .int a1), (3, .int a2)] := hl
  refine lv_aload_n hx hb dX11_address_0 rfl (lv_at hl 0 rfl) ?_
  refine lv_iload_n hx hb dX11_address_1 rfl (lv_at hl 1 rfl) ?_
  have hPc := hP.sub (ws' := [(h0, .inr (11, oX w sg ro tr gX)), (w, .inr (10, oW kd gW 0 0))]) [0, 1] rfl
  have hDc := hD.sub (ws' := [(h0, .inr (11, oX w sg ro tr gX)), (w, .inr (10, oW kd gW 0 0))]) [0, 1] (by decide) rfl
  have hKc := hK.sub (tys' := []) [] rfl
  have hFc := roF hS hA
  refine vx_callv (vx_runV (As := [.int a0]) (rest := []) ⟨hx, hb, hml, hown, hts⟩ (c_X11_needPort l dC dI s.heap.size hfl h0 w sg ro tr gX kd gW a0) (cwV 1 hts (gV u_611 u_613 v_1 u_1 u_614) rfl rfl rfl (by decide +kernel) ⟨Nat.le_of_ble_eq_true rfl, Nat.le_of_ble_eq_true rfl⟩) ⟨gPZ_blind, va_recv hKc hPc (ci := 11) (q0 := 0) rfl rfl, gPZ_call hPc hKc hDc hE hZ hS hFc⟩ rfl rfl hl.1 rfl (lv_room (Nat.le_of_ble_eq_true rfl)) dX11_address_2 ⟨(Nat.le_of_ble_eq_true rfl), (Nat.le_of_ble_eq_true rfl)⟩) hS (fun q _ h => hFc q h) hFc (fun q _ h => hFc q h) (fun E9 ce9 q30 u9 t9 H28 locs ht hvm hpx hBX hz1 hk1 hS hce hcv hcl => ?_) (fun u9 t9 H28 locs ht hvm hw hB hz1 hk1 hS => hw.elim)
  exact vx_out (fun x h => (ht0 x h).elim) hlocks hce hcv hcl (fun t ht _ => ⟨(), trivial, hBX, hS.F ht⟩) hS.2.2 (Nat.le_of_ble_eq_true rfl) (Nat.le_of_ble_eq_true rfl)
set_option maxHeartbeats 4000000 in
set_option maxRecDepth 100000 in
theorem c_X11_gateway (l : Launch) (dC : Nat → ClassId) (dI : Nat → Nat → Nat) (sz : Nat) (hfl : l.stackTraces = false) (h0 : Nat) (w : Nat) (sg : Nat) (ro : Nat) (tr : Nat) (gX : Nat → Nat) (kd : Nat) (gW : Nat → Nat) (a0 : Int32) (a1 : Int32) : vx_Met l yX11_gateway (Cond.code yX11_gateway cX11_gateway 4 (some .int) :: gU) ({ frames := 7, cells := 1, slots := 6, locals := 103 }) (gPZ dC dI sz [(h0, .inr (11, oX w sg ro tr gX)), (w, .inr (10, oW kd gW 0 0))] [] (va_A [] sz) [.ref h0, .int a0, .int a1]) (va_Qi (fun (r : Int32) (_ : Unit) => False) (fun _ _ => True) (va_A [] sz)) (vx_X (fun _ : Unit => True) (fun E9 _ _ => E9 = "java/lang/IndexOutOfBoundsException") (va_A [] sz)) 1 6 (va_A [] sz) := by
  refine vx_ofW (cc := cX11_gateway) (maxL := 4) (ret := (some .int)) (by decide) rfl ?_
  intro p e s m args below meth c s₁ B hml ht0 hv
  obtain ⟨rfl, hsz, hP, hK, hD0, hE, hZ⟩ := hv
  have hx := B.exec
  have hb := B.bytes
  have hr := B.returns
  have hts0 := atoms_spec (ws := Cond.code yX11_gateway cX11_gateway 4 (some .int) :: gU) B.pre
  have hts : ∀ w ∈ gU, w.before _ s = true := fun w h => hts0 w (List.mem_cons_of_mem _ h)
  have hown : s.vm.findClass RX11 = some m.cls := findClass_of_methodNamed B.named
  have hlocks := B.notSynchronized
  subst hsz
  have hD := hD0
  generalize hAe : va_A [] s.heap.size = A at hZ ⊢
  have hA : ∀ q : Nat, s.heap.size ≤ q → A q := fun q h => by rw [← hAe]; exact Or.inr h
  have hS : va_S A s.heap s.heap [] := va_S.rf
  have hP : va_P (dC, dI) vwCl [(h0, .inr (11, oX w sg ro tr gX)), (w, .inr (10, oW kd gW 0 0))] s.heap := hP
  have hl := lv_entry ([.ref h0, .int a0, .int a1]) (n := 4) (Nat.le_of_ble_eq_true rfl)
  rw [lg_entry_eq]
  generalize (lg_sl ([.ref h0, .int a0, .int a1]) ++ List.replicate (4 - (lg_sl ([.ref h0, .int a0, .int a1])).length) Slot.unset).toArray = ls at hl ⊢
  have hl : lv_has ls 4 [(0, .ref h0), (1, .int a0), (2, .int a1)] := hl
  refine lv_aload_n hx hb dX11_gateway_0 rfl (lv_at hl 0 rfl) ?_
  refine lv_iload_n hx hb dX11_gateway_1 rfl (lv_at hl 1 rfl) ?_
  have hPc := hP.sub (ws' := [(h0, .inr (11, oX w sg ro tr gX)), (w, .inr (10, oW kd gW 0 0))]) [0, 1] rfl
  have hDc := hD.sub (ws' := [(h0, .inr (11, oX w sg ro tr gX)), (w, .inr (10, oW kd gW 0 0))]) [0, 1] (by decide) rfl
  have hKc := hK.sub (tys' := []) [] rfl
  have hFc := roF hS hA
  refine vx_callv (vx_runV (As := [.int a0]) (rest := []) ⟨hx, hb, hml, hown, hts⟩ (c_X11_needBox l dC dI s.heap.size hfl h0 w sg ro tr gX kd gW a0) (cwV 1 hts (gV u_782 u_784 v_12 u_1 u_785) rfl rfl rfl (by decide +kernel) ⟨Nat.le_of_ble_eq_true rfl, Nat.le_of_ble_eq_true rfl⟩) ⟨gPZ_blind, va_recv hKc hPc (ci := 11) (q0 := 0) rfl rfl, gPZ_call hPc hKc hDc hE hZ hS hFc⟩ rfl rfl hl.1 rfl (lv_room (Nat.le_of_ble_eq_true rfl)) dX11_gateway_2 ⟨(Nat.le_of_ble_eq_true rfl), (Nat.le_of_ble_eq_true rfl)⟩) hS (fun q _ h => hFc q h) hFc (fun q _ h => hFc q h) (fun E9 ce9 q33 u9 t9 H31 locs ht hvm hpx hBX hz1 hk1 hS hce hcv hcl => ?_) (fun u9 t9 H31 locs ht hvm hw hB hz1 hk1 hS => hw.elim)
  exact vx_out (fun x h => (ht0 x h).elim) hlocks hce hcv hcl (fun t ht _ => ⟨(), trivial, hBX, hS.F ht⟩) hS.2.2 (Nat.le_of_ble_eq_true rfl) (Nat.le_of_ble_eq_true rfl)
set_option maxHeartbeats 4000000 in
set_option maxRecDepth 100000 in
theorem c_X11_route (l : Launch) (dC : Nat → ClassId) (dI : Nat → Nat → Nat) (sz : Nat) (hfl : l.stackTraces = false) (h0 : Nat) (w : Nat) (sg : Nat) (ro : Nat) (tr : Nat) (gX : Nat → Nat) (kd : Nat) (gW : Nat → Nat) (a0 : Int32) (a1 : Int32) (a2 : Int32) (a3 : Int32) : vx_Met l yX11_route (Cond.code yX11_route cX11_route 6 (some .int) :: gU) ({ frames := 7, cells := 1, slots := 6, locals := 103 }) (gPZ dC dI sz [(h0, .inr (11, oX w sg ro tr gX)), (w, .inr (10, oW kd gW 0 0))] [] (va_A [] sz) [.ref h0, .int a0, .int a1, .int a2, .int a3]) (va_Qi (fun (r : Int32) (_ : Unit) => False) (fun _ _ => True) (va_A [] sz)) (vx_X (fun _ : Unit => True) (fun E9 _ _ => E9 = "java/lang/IndexOutOfBoundsException") (va_A [] sz)) 1 6 (va_A [] sz) := by
  refine vx_ofW (cc := cX11_route) (maxL := 6) (ret := (some .int)) (by decide) rfl ?_
  intro p e s m args below meth c s₁ B hml ht0 hv
  obtain ⟨rfl, hsz, hP, hK, hD0, hE, hZ⟩ := hv
  have hx := B.exec
  have hb := B.bytes
  have hr := B.returns
  have hts0 := atoms_spec (ws := Cond.code yX11_route cX11_route 6 (some .int) :: gU) B.pre
  have hts : ∀ w ∈ gU, w.before _ s = true := fun w h => hts0 w (List.mem_cons_of_mem _ h)
  have hown : s.vm.findClass RX11 = some m.cls := findClass_of_methodNamed B.named
  have hlocks := B.notSynchronized
  subst hsz
  have hD := hD0
  generalize hAe : va_A [] s.heap.size = A at hZ ⊢
  have hA : ∀ q : Nat, s.heap.size ≤ q → A q := fun q h => by rw [← hAe]; exact Or.inr h
  have hS : va_S A s.heap s.heap [] := va_S.rf
  have hP : va_P (dC, dI) vwCl [(h0, .inr (11, oX w sg ro tr gX)), (w, .inr (10, oW kd gW 0 0))] s.heap := hP
  have hl := lv_entry ([.ref h0, .int a0, .int a1, .int a2, .int a3]) (n := 6) (Nat.le_of_ble_eq_true rfl)
  rw [lg_entry_eq]
  generalize (lg_sl ([.ref h0, .int a0, .int a1, .int a2, .int a3]) ++ List.replicate (6 - (lg_sl ([.ref h0, .int a0, .int a1, .int a2, .int a3])).length) Slot.unset).toArray = ls at hl ⊢
  have hl : lv_has ls 6 [(0, .ref h0), (1, .int a0), (2, .int a1), (3, .int a2), (4, .int a3)] := hl
  refine lv_aload_n hx hb dX11_route_0 rfl (lv_at hl 0 rfl) ?_
  refine lv_iload_n hx hb dX11_route_1 rfl (lv_at hl 1 rfl) ?_
  have hPc := hP.sub (ws' := [(h0, .inr (11, oX w sg ro tr gX)), (w, .inr (10, oW kd gW 0 0))]) [0, 1] rfl
  have hDc := hD.sub (ws' := [(h0, .inr (11, oX w sg ro tr gX)), (w, .inr (10, oW kd gW 0 0))]) [0, 1] (by decide) rfl
  have hKc := hK.sub (tys' := []) [] rfl
  have hFc := roF hS hA
  refine vx_callv (vx_runV (As := [.int a0]) (rest := []) ⟨hx, hb, hml, hown, hts⟩ (c_X11_needBox l dC dI s.heap.size hfl h0 w sg ro tr gX kd gW a0) (cwV 1 hts (gV u_782 u_784 v_12 u_1 u_785) rfl rfl rfl (by decide +kernel) ⟨Nat.le_of_ble_eq_true rfl, Nat.le_of_ble_eq_true rfl⟩) ⟨gPZ_blind, va_recv hKc hPc (ci := 11) (q0 := 0) rfl rfl, gPZ_call hPc hKc hDc hE hZ hS hFc⟩ rfl rfl hl.1 rfl (lv_room (Nat.le_of_ble_eq_true rfl)) dX11_route_2 ⟨(Nat.le_of_ble_eq_true rfl), (Nat.le_of_ble_eq_true rfl)⟩) hS (fun q _ h => hFc q h) hFc (fun q _ h => hFc q h) (fun E9 ce9 q36 u9 t9 H34 locs ht hvm hpx hBX hz1 hk1 hS hce hcv hcl => ?_) (fun u9 t9 H34 locs ht hvm hw hB hz1 hk1 hS => hw.elim)
  exact vx_out (fun x h => (ht0 x h).elim) hlocks hce hcv hcl (fun t ht _ => ⟨(), trivial, hBX, hS.F ht⟩) hS.2.2 (Nat.le_of_ble_eq_true rfl) (Nat.le_of_ble_eq_true rfl)
set_option maxHeartbeats 4000000 in
set_option maxRecDepth 100000 in
theorem c_X11_rule (l : Launch) (dC : Nat → ClassId) (dI : Nat → Nat → Nat) (sz : Nat) (hfl : l.stackTraces = false) (h0 : Nat) (w : Nat) (sg : Nat) (ro : Nat) (tr : Nat) (gX : Nat → Nat) (kd : Nat) (gW : Nat → Nat) (a0 : Int32) (a1 : Int32) (a2 : Int32) (a3 : Int32) (a4 : Int32) (a5 : Int32) (a6 : Int32) : vx_Met l yX11_rule (Cond.code yX11_rule cX11_rule 9 (some .int) :: gU) ({ frames := 7, cells := 1, slots := 6, locals := 103 }) (gPZ dC dI sz [(h0, .inr (11, oX w sg ro tr gX)), (w, .inr (10, oW kd gW 0 0))] [] (va_A [] sz) [.ref h0, .int a0, .int a1, .int a2, .int a3, .int a4, .int a5, .int a6]) (va_Qi (fun (r : Int32) (_ : Unit) => False) (fun _ _ => True) (va_A [] sz)) (vx_X (fun _ : Unit => True) (fun E9 _ _ => E9 = "java/lang/IndexOutOfBoundsException") (va_A [] sz)) 1 6 (va_A [] sz) := by
  refine vx_ofW (cc := cX11_rule) (maxL := 9) (ret := (some .int)) (by decide) rfl ?_
  intro p e s m args below meth c s₁ B hml ht0 hv
  obtain ⟨rfl, hsz, hP, hK, hD0, hE, hZ⟩ := hv
  have hx := B.exec
  have hb := B.bytes
  have hr := B.returns
  have hts0 := atoms_spec (ws := Cond.code yX11_rule cX11_rule 9 (some .int) :: gU) B.pre
  have hts : ∀ w ∈ gU, w.before _ s = true := fun w h => hts0 w (List.mem_cons_of_mem _ h)
  have hown : s.vm.findClass RX11 = some m.cls := findClass_of_methodNamed B.named
  have hlocks := B.notSynchronized
  subst hsz
  have hD := hD0
  generalize hAe : va_A [] s.heap.size = A at hZ ⊢
  have hA : ∀ q : Nat, s.heap.size ≤ q → A q := fun q h => by rw [← hAe]; exact Or.inr h
  have hS : va_S A s.heap s.heap [] := va_S.rf
  have hP : va_P (dC, dI) vwCl [(h0, .inr (11, oX w sg ro tr gX)), (w, .inr (10, oW kd gW 0 0))] s.heap := hP
  have hl := lv_entry ([.ref h0, .int a0, .int a1, .int a2, .int a3, .int a4, .int a5, .int a6]) (n := 9) (Nat.le_of_ble_eq_true rfl)
  rw [lg_entry_eq]
  generalize (lg_sl ([.ref h0, .int a0, .int a1, .int a2, .int a3, .int a4, .int a5, .int a6]) ++ List.replicate (9 - (lg_sl ([.ref h0, .int a0, .int a1, .int a2, .int a3, .int a4, .int a5, .int a6])).length) Slot.unset).toArray = ls at hl ⊢
  have hl : lv_has ls 9 [(0, .ref h0), (1, .int a0), (2, .int a1), (3, .int a2), (4, .int a3), (5, .int a4), (6, .int a5), (7, .int a6)] := hl
  refine lv_aload_n hx hb dX11_rule_0 rfl (lv_at hl 0 rfl) ?_
  refine lv_iload_n hx hb dX11_rule_1 rfl (lv_at hl 1 rfl) ?_
  have hPc := hP.sub (ws' := [(h0, .inr (11, oX w sg ro tr gX)), (w, .inr (10, oW kd gW 0 0))]) [0, 1] rfl
  have hDc := hD.sub (ws' := [(h0, .inr (11, oX w sg ro tr gX)), (w, .inr (10, oW kd gW 0 0))]) [0, 1] (by decide) rfl
  have hKc := hK.sub (tys' := []) [] rfl
  have hFc := roF hS hA
  refine vx_callv (vx_runV (As := [.int a0]) (rest := []) ⟨hx, hb, hml, hown, hts⟩ (c_X11_needBox l dC dI s.heap.size hfl h0 w sg ro tr gX kd gW a0) (cwV 1 hts (gV u_782 u_784 v_12 u_1 u_785) rfl rfl rfl (by decide +kernel) ⟨Nat.le_of_ble_eq_true rfl, Nat.le_of_ble_eq_true rfl⟩) ⟨gPZ_blind, va_recv hKc hPc (ci := 11) (q0 := 0) rfl rfl, gPZ_call hPc hKc hDc hE hZ hS hFc⟩ rfl rfl hl.1 rfl (lv_room (Nat.le_of_ble_eq_true rfl)) dX11_rule_2 ⟨(Nat.le_of_ble_eq_true rfl), (Nat.le_of_ble_eq_true rfl)⟩) hS (fun q _ h => hFc q h) hFc (fun q _ h => hFc q h) (fun E9 ce9 q39 u9 t9 H37 locs ht hvm hpx hBX hz1 hk1 hS hce hcv hcl => ?_) (fun u9 t9 H37 locs ht hvm hw hB hz1 hk1 hS => hw.elim)
  exact vx_out (fun x h => (ht0 x h).elim) hlocks hce hcv hcl (fun t ht _ => ⟨(), trivial, hBX, hS.F ht⟩) hS.2.2 (Nat.le_of_ble_eq_true rfl) (Nat.le_of_ble_eq_true rfl)
set_option maxHeartbeats 4000000 in
set_option maxRecDepth 100000 in
theorem c_X11_watch (l : Launch) (dC : Nat → ClassId) (dI : Nat → Nat → Nat) (sz : Nat) (hfl : l.stackTraces = false) (h0 : Nat) (w : Nat) (sg : Nat) (ro : Nat) (tr : Nat) (gX : Nat → Nat) (kd : Nat) (gW : Nat → Nat) (a0 : Int32) (a1 : Int32) : vx_Met l yX11_watch (Cond.code yX11_watch cX11_watch 3 (some .boolean) :: gU) ({ frames := 7, cells := 1, slots := 6, locals := 103 }) (gPZ dC dI sz [(h0, .inr (11, oX w sg ro tr gX)), (w, .inr (10, oW kd gW 0 0))] [] (va_A [] sz) [.ref h0, .int a0, .int a1]) (va_Qi (fun (r : Int32) (_ : Unit) => False) (fun _ _ => True) (va_A [] sz)) (vx_X (fun _ : Unit => True) (fun E9 _ _ => E9 = "java/lang/IndexOutOfBoundsException") (va_A [] sz)) 1 6 (va_A [] sz) := by
  refine vx_ofW (cc := cX11_watch) (maxL := 3) (ret := (some .boolean)) (by decide) rfl ?_
  intro p e s m args below meth c s₁ B hml ht0 hv
  obtain ⟨rfl, hsz, hP, hK, hD0, hE, hZ⟩ := hv
  have hx := B.exec
  have hb := B.bytes
  have hr := B.returns
  have hts0 := atoms_spec (ws := Cond.code yX11_watch cX11_watch 3 (some .boolean) :: gU) B.pre
  have hts : ∀ w ∈ gU, w.before _ s = true := fun w h => hts0 w (List.mem_cons_of_mem _ h)
  have hown : s.vm.findClass RX11 = some m.cls := findClass_of_methodNamed B.named
  have hlocks := B.notSynchronized
  subst hsz
  have hD := hD0
  generalize hAe : va_A [] s.heap.size = A at hZ ⊢
  have hA : ∀ q : Nat, s.heap.size ≤ q → A q := fun q h => by rw [← hAe]; exact Or.inr h
  have hS : va_S A s.heap s.heap [] := va_S.rf
  have hP : va_P (dC, dI) vwCl [(h0, .inr (11, oX w sg ro tr gX)), (w, .inr (10, oW kd gW 0 0))] s.heap := hP
  have hl := lv_entry ([.ref h0, .int a0, .int a1]) (n := 3) (Nat.le_of_ble_eq_true rfl)
  rw [lg_entry_eq]
  generalize (lg_sl ([.ref h0, .int a0, .int a1]) ++ List.replicate (3 - (lg_sl ([.ref h0, .int a0, .int a1])).length) Slot.unset).toArray = ls at hl ⊢
  have hl : lv_has ls 3 [(0, .ref h0), (1, .int a0), (2, .int a1)] := hl
  refine lv_aload_n hx hb dX11_watch_0 rfl (lv_at hl 0 rfl) ?_
  refine lv_iload_n hx hb dX11_watch_1 rfl (lv_at hl 1 rfl) ?_
  have hPc := hP.sub (ws' := [(h0, .inr (11, oX w sg ro tr gX)), (w, .inr (10, oW kd gW 0 0))]) [0, 1] rfl
  have hDc := hD.sub (ws' := [(h0, .inr (11, oX w sg ro tr gX)), (w, .inr (10, oW kd gW 0 0))]) [0, 1] (by decide) rfl
  have hKc := hK.sub (tys' := []) [] rfl
  have hFc := roF hS hA
  refine vx_callv (vx_runV (As := [.int a0]) (rest := []) ⟨hx, hb, hml, hown, hts⟩ (c_X11_needBox l dC dI s.heap.size hfl h0 w sg ro tr gX kd gW a0) (cwV 1 hts (gV u_782 u_784 v_12 u_1 u_785) rfl rfl rfl (by decide +kernel) ⟨Nat.le_of_ble_eq_true rfl, Nat.le_of_ble_eq_true rfl⟩) ⟨gPZ_blind, va_recv hKc hPc (ci := 11) (q0 := 0) rfl rfl, gPZ_call hPc hKc hDc hE hZ hS hFc⟩ rfl rfl hl.1 rfl (lv_room (Nat.le_of_ble_eq_true rfl)) dX11_watch_2 ⟨(Nat.le_of_ble_eq_true rfl), (Nat.le_of_ble_eq_true rfl)⟩) hS (fun q _ h => hFc q h) hFc (fun q _ h => hFc q h) (fun E9 ce9 q42 u9 t9 H40 locs ht hvm hpx hBX hz1 hk1 hS hce hcv hcl => ?_) (fun u9 t9 H40 locs ht hvm hw hB hz1 hk1 hS => hw.elim)
  exact vx_out (fun x h => (ht0 x h).elim) hlocks hce hcv hcl (fun t ht _ => ⟨(), trivial, hBX, hS.F ht⟩) hS.2.2 (Nat.le_of_ble_eq_true rfl) (Nat.le_of_ble_eq_true rfl)
set_option maxHeartbeats 4000000 in
set_option maxRecDepth 100000 in
theorem c_X11_pool (l : Launch) (dC : Nat → ClassId) (dI : Nat → Nat → Nat) (sz : Nat) (hfl : l.stackTraces = false) (h0 : Nat) (w : Nat) (sg : Nat) (ro : Nat) (tr : Nat) (gX : Nat → Nat) (kd : Nat) (gW : Nat → Nat) (a0 : Int32) (a1 : Int32) (a2 : Int32) : vx_Met l yX11_pool (Cond.code yX11_pool cX11_pool 4 (some .int) :: gU) ({ frames := 7, cells := 1, slots := 6, locals := 103 }) (gPZ dC dI sz [(h0, .inr (11, oX w sg ro tr gX)), (w, .inr (10, oW kd gW 0 0))] [] (va_A [] sz) [.ref h0, .int a0, .int a1, .int a2]) (va_Qi (fun (r : Int32) (_ : Unit) => False) (fun _ _ => True) (va_A [] sz)) (vx_X (fun _ : Unit => True) (fun E9 _ _ => E9 = "java/lang/IndexOutOfBoundsException") (va_A [] sz)) 1 6 (va_A [] sz) := by
  refine vx_ofW (cc := cX11_pool) (maxL := 4) (ret := (some .int)) (by decide) rfl ?_
  intro p e s m args below meth c s₁ B hml ht0 hv
  obtain ⟨rfl, hsz, hP, hK, hD0, hE, hZ⟩ := hv
  have hx := B.exec
  have hb := B.bytes
  have hr := B.returns
  have hts0 := atoms_spec (ws := Cond.code yX11_pool cX11_pool 4 (some .int) :: gU) B.pre
  have hts : ∀ w ∈ gU, w.before _ s = true := fun w h => hts0 w (List.mem_cons_of_mem _ h)
  have hown : s.vm.findClass RX11 = some m.cls := findClass_of_methodNamed B.named
  have hlocks := B.notSynchronized
  subst hsz
  have hD := hD0
  generalize hAe : va_A [] s.heap.size = A at hZ ⊢
  have hA : ∀ q : Nat, s.heap.size ≤ q → A q := fun q h => by rw [← hAe]; exact Or.inr h
  have hS : va_S A s.heap s.heap [] := va_S.rf
  have hP : va_P (dC, dI) vwCl [(h0, .inr (11, oX w sg ro tr gX)), (w, .inr (10, oW kd gW 0 0))] s.heap := hP
  have hl := lv_entry ([.ref h0, .int a0, .int a1, .int a2]) (n := 4) (Nat.le_of_ble_eq_true rfl)
  rw [lg_entry_eq]
  generalize (lg_sl ([.ref h0, .int a0, .int a1, .int a2]) ++ List.replicate (4 - (lg_sl ([.ref h0, .int a0, .int a1, .int a2])).length) Slot.unset).toArray = ls at hl ⊢
  have hl : lv_has ls 4 [(0, .ref h0), (1, .int a0), (2, .int a1), (3, .int a2)] := hl
  refine lv_aload_n hx hb dX11_pool_0 rfl (lv_at hl 0 rfl) ?_
  refine lv_iload_n hx hb dX11_pool_1 rfl (lv_at hl 1 rfl) ?_
  have hPc := hP.sub (ws' := [(h0, .inr (11, oX w sg ro tr gX)), (w, .inr (10, oW kd gW 0 0))]) [0, 1] rfl
  have hDc := hD.sub (ws' := [(h0, .inr (11, oX w sg ro tr gX)), (w, .inr (10, oW kd gW 0 0))]) [0, 1] (by decide) rfl
  have hKc := hK.sub (tys' := []) [] rfl
  have hFc := roF hS hA
  refine vx_callv (vx_runV (As := [.int a0]) (rest := []) ⟨hx, hb, hml, hown, hts⟩ (c_X11_needPort l dC dI s.heap.size hfl h0 w sg ro tr gX kd gW a0) (cwV 1 hts (gV u_611 u_613 v_1 u_1 u_614) rfl rfl rfl (by decide +kernel) ⟨Nat.le_of_ble_eq_true rfl, Nat.le_of_ble_eq_true rfl⟩) ⟨gPZ_blind, va_recv hKc hPc (ci := 11) (q0 := 0) rfl rfl, gPZ_call hPc hKc hDc hE hZ hS hFc⟩ rfl rfl hl.1 rfl (lv_room (Nat.le_of_ble_eq_true rfl)) dX11_pool_2 ⟨(Nat.le_of_ble_eq_true rfl), (Nat.le_of_ble_eq_true rfl)⟩) hS (fun q _ h => hFc q h) hFc (fun q _ h => hFc q h) (fun E9 ce9 q45 u9 t9 H43 locs ht hvm hpx hBX hz1 hk1 hS hce hcv hcl => ?_) (fun u9 t9 H43 locs ht hvm hw hB hz1 hk1 hS => hw.elim)
  exact vx_out (fun x h => (ht0 x h).elim) hlocks hce hcv hcl (fun t ht _ => ⟨(), trivial, hBX, hS.F ht⟩) hS.2.2 (Nat.le_of_ble_eq_true rfl) (Nat.le_of_ble_eq_true rfl)
set_option maxHeartbeats 4000000 in
set_option maxRecDepth 100000 in
theorem c_X11_send (l : Launch) (dC : Nat → ClassId) (dI : Nat → Nat → Nat) (sz : Nat) (hfl : l.stackTraces = false) (h0 : Nat) (w : Nat) (sg : Nat) (ro : Nat) (tr : Nat) (gX : Nat → Nat) (kd : Nat) (gW : Nat → Nat) (a0 : Int32) (a1 : Int32) (a2 : Int32) : vx_Met l yX11_send (Cond.code yX11_send cX11_send 5 (some .int) :: gU) ({ frames := 7, cells := 1, slots := 6, locals := 103 }) (gPZ dC dI sz [(h0, .inr (11, oX w sg ro tr gX)), (w, .inr (10, oW kd gW 0 0))] [] (va_A [] sz) [.ref h0, .int a0, .int a1, .int a2]) (va_Qi (fun (r : Int32) (_ : Unit) => False) (fun _ _ => True) (va_A [] sz)) (vx_X (fun _ : Unit => True) (fun E9 _ _ => E9 = "java/lang/IndexOutOfBoundsException") (va_A [] sz)) 1 6 (va_A [] sz) := by
  refine vx_ofW (cc := cX11_send) (maxL := 5) (ret := (some .int)) (by decide) rfl ?_
  intro p e s m args below meth c s₁ B hml ht0 hv
  obtain ⟨rfl, hsz, hP, hK, hD0, hE, hZ⟩ := hv
  have hx := B.exec
  have hb := B.bytes
  have hr := B.returns
  have hts0 := atoms_spec (ws := Cond.code yX11_send cX11_send 5 (some .int) :: gU) B.pre
  have hts : ∀ w ∈ gU, w.before _ s = true := fun w h => hts0 w (List.mem_cons_of_mem _ h)
  have hown : s.vm.findClass RX11 = some m.cls := findClass_of_methodNamed B.named
  have hlocks := B.notSynchronized
  subst hsz
  have hD := hD0
  generalize hAe : va_A [] s.heap.size = A at hZ ⊢
  have hA : ∀ q : Nat, s.heap.size ≤ q → A q := fun q h => by rw [← hAe]; exact Or.inr h
  have hS : va_S A s.heap s.heap [] := va_S.rf
  have hP : va_P (dC, dI) vwCl [(h0, .inr (11, oX w sg ro tr gX)), (w, .inr (10, oW kd gW 0 0))] s.heap := hP
  have hl := lv_entry ([.ref h0, .int a0, .int a1, .int a2]) (n := 5) (Nat.le_of_ble_eq_true rfl)
  rw [lg_entry_eq]
  generalize (lg_sl ([.ref h0, .int a0, .int a1, .int a2]) ++ List.replicate (5 - (lg_sl ([.ref h0, .int a0, .int a1, .int a2])).length) Slot.unset).toArray = ls at hl ⊢
  have hl : lv_has ls 5 [(0, .ref h0), (1, .int a0), (2, .int a1), (3, .int a2)] := hl
  refine lv_aload_n hx hb dX11_send_0 rfl (lv_at hl 0 rfl) ?_
  refine lv_iload_n hx hb dX11_send_1 rfl (lv_at hl 1 rfl) ?_
  have hPc := hP.sub (ws' := [(h0, .inr (11, oX w sg ro tr gX)), (w, .inr (10, oW kd gW 0 0))]) [0, 1] rfl
  have hDc := hD.sub (ws' := [(h0, .inr (11, oX w sg ro tr gX)), (w, .inr (10, oW kd gW 0 0))]) [0, 1] (by decide) rfl
  have hKc := hK.sub (tys' := []) [] rfl
  have hFc := roF hS hA
  refine vx_callv (vx_runV (As := [.int a0]) (rest := []) ⟨hx, hb, hml, hown, hts⟩ (c_X11_needBox l dC dI s.heap.size hfl h0 w sg ro tr gX kd gW a0) (cwV 1 hts (gV u_782 u_784 v_12 u_1 u_785) rfl rfl rfl (by decide +kernel) ⟨Nat.le_of_ble_eq_true rfl, Nat.le_of_ble_eq_true rfl⟩) ⟨gPZ_blind, va_recv hKc hPc (ci := 11) (q0 := 0) rfl rfl, gPZ_call hPc hKc hDc hE hZ hS hFc⟩ rfl rfl hl.1 rfl (lv_room (Nat.le_of_ble_eq_true rfl)) dX11_send_2 ⟨(Nat.le_of_ble_eq_true rfl), (Nat.le_of_ble_eq_true rfl)⟩) hS (fun q _ h => hFc q h) hFc (fun q _ h => hFc q h) (fun E9 ce9 q48 u9 t9 H46 locs ht hvm hpx hBX hz1 hk1 hS hce hcv hcl => ?_) (fun u9 t9 H46 locs ht hvm hw hB hz1 hk1 hS => hw.elim)
  exact vx_out (fun x h => (ht0 x h).elim) hlocks hce hcv hcl (fun t ht _ => ⟨(), trivial, hBX, hS.F ht⟩) hS.2.2 (Nat.le_of_ble_eq_true rfl) (Nat.le_of_ble_eq_true rfl)
set_option maxHeartbeats 4000000 in
set_option maxRecDepth 100000 in
theorem c_X11_fate (l : Launch) (dC : Nat → ClassId) (dI : Nat → Nat → Nat) (sz : Nat) (hfl : l.stackTraces = false) (h0 : Nat) (w : Nat) (sg : Nat) (ro : Nat) (tr : Nat) (gX : Nat → Nat) (gT : Nat → Nat) (a0 : Int32) : vx_Met l yX11_fate (Cond.code yX11_fate cX11_fate 2 (some .int) :: gU) ({ frames := 7, cells := 1, slots := 6, locals := 103 }) (gPZ dC dI sz [(h0, .inr (11, oX w sg ro tr gX)), (tr, .inr (9, oT w sg ro gT 0 0 0 0))] [] (va_A [] sz) [.ref h0, .int a0]) (va_Qi (fun (r : Int32) (_ : Unit) => False) (fun _ _ => True) (va_A [] sz)) (vx_X (fun _ : Unit => True) (fun E9 _ _ => E9 = "java/lang/IndexOutOfBoundsException") (va_A [] sz)) 1 6 (va_A [] sz) := by
  refine vx_ofW (cc := cX11_fate) (maxL := 2) (ret := (some .int)) (by decide) rfl ?_
  intro p e s m args below meth c s₁ B hml ht0 hv
  obtain ⟨rfl, hsz, hP, hK, hD0, hE, hZ⟩ := hv
  have hx := B.exec
  have hb := B.bytes
  have hr := B.returns
  have hts0 := atoms_spec (ws := Cond.code yX11_fate cX11_fate 2 (some .int) :: gU) B.pre
  have hts : ∀ w ∈ gU, w.before _ s = true := fun w h => hts0 w (List.mem_cons_of_mem _ h)
  have hown : s.vm.findClass RX11 = some m.cls := findClass_of_methodNamed B.named
  have hlocks := B.notSynchronized
  subst hsz
  have hD := hD0
  generalize hAe : va_A [] s.heap.size = A at hZ ⊢
  have hA : ∀ q : Nat, s.heap.size ≤ q → A q := fun q h => by rw [← hAe]; exact Or.inr h
  have hS : va_S A s.heap s.heap [] := va_S.rf
  have hP : va_P (dC, dI) vwCl [(h0, .inr (11, oX w sg ro tr gX)), (tr, .inr (9, oT w sg ro gT 0 0 0 0))] s.heap := hP
  have hl := lv_entry ([.ref h0, .int a0]) (n := 2) (Nat.le_of_ble_eq_true rfl)
  rw [lg_entry_eq]
  generalize (lg_sl ([.ref h0, .int a0]) ++ List.replicate (2 - (lg_sl ([.ref h0, .int a0])).length) Slot.unset).toArray = ls at hl ⊢
  have hl : lv_has ls 2 [(0, .ref h0), (1, .int a0)] := hl
  refine lv_aload_n hx hb dX11_fate_0 rfl (lv_at hl 0 rfl) ?_
  refine lv_iload_n hx hb dX11_fate_1 rfl (lv_at hl 1 rfl) ?_
  have hPc := hP.sub (ws' := [(h0, .inr (11, oX w sg ro tr gX)), (tr, .inr (9, oT w sg ro gT 0 0 0 0))]) [0, 1] rfl
  have hDc := hD.sub (ws' := [(h0, .inr (11, oX w sg ro tr gX)), (tr, .inr (9, oT w sg ro gT 0 0 0 0))]) [0, 1] (by decide) rfl
  have hKc := hK.sub (tys' := []) [] rfl
  have hFc := roF hS hA
  refine vx_callv (vx_runV (As := [.int a0]) (rest := []) ⟨hx, hb, hml, hown, hts⟩ (c_X11_needPacket l dC dI s.heap.size hfl h0 w sg ro tr gX gT a0) (cwV 1 hts (gV u_1052 u_1054 v_27 u_1 u_1055) rfl rfl rfl (by decide +kernel) ⟨Nat.le_of_ble_eq_true rfl, Nat.le_of_ble_eq_true rfl⟩) ⟨gPZ_blind, va_recv hKc hPc (ci := 11) (q0 := 0) rfl rfl, gPZ_call hPc hKc hDc hE hZ hS hFc⟩ rfl rfl hl.1 rfl (lv_room (Nat.le_of_ble_eq_true rfl)) dX11_fate_2 ⟨(Nat.le_of_ble_eq_true rfl), (Nat.le_of_ble_eq_true rfl)⟩) hS (fun q _ h => hFc q h) hFc (fun q _ h => hFc q h) (fun E9 ce9 q51 u9 t9 H49 locs ht hvm hpx hBX hz1 hk1 hS hce hcv hcl => ?_) (fun u9 t9 H49 locs ht hvm hw hB hz1 hk1 hS => hw.elim)
  exact vx_out (fun x h => (ht0 x h).elim) hlocks hce hcv hcl (fun t ht _ => ⟨(), trivial, hBX, hS.F ht⟩) hS.2.2 (Nat.le_of_ble_eq_true rfl) (Nat.le_of_ble_eq_true rfl)
set_option maxHeartbeats 4000000 in
set_option maxRecDepth 100000 in
theorem c_X11_where (l : Launch) (dC : Nat → ClassId) (dI : Nat → Nat → Nat) (sz : Nat) (hfl : l.stackTraces = false) (h0 : Nat) (w : Nat) (sg : Nat) (ro : Nat) (tr : Nat) (gX : Nat → Nat) (gT : Nat → Nat) (a0 : Int32) : vx_Met l yX11_where (Cond.code yX11_where cX11_where 2 (some .int) :: gU) ({ frames := 7, cells := 1, slots := 6, locals := 103 }) (gPZ dC dI sz [(h0, .inr (11, oX w sg ro tr gX)), (tr, .inr (9, oT w sg ro gT 0 0 0 0))] [] (va_A [] sz) [.ref h0, .int a0]) (va_Qi (fun (r : Int32) (_ : Unit) => False) (fun _ _ => True) (va_A [] sz)) (vx_X (fun _ : Unit => True) (fun E9 _ _ => E9 = "java/lang/IndexOutOfBoundsException") (va_A [] sz)) 1 6 (va_A [] sz) := by
  refine vx_ofW (cc := cX11_where) (maxL := 2) (ret := (some .int)) (by decide) rfl ?_
  intro p e s m args below meth c s₁ B hml ht0 hv
  obtain ⟨rfl, hsz, hP, hK, hD0, hE, hZ⟩ := hv
  have hx := B.exec
  have hb := B.bytes
  have hr := B.returns
  have hts0 := atoms_spec (ws := Cond.code yX11_where cX11_where 2 (some .int) :: gU) B.pre
  have hts : ∀ w ∈ gU, w.before _ s = true := fun w h => hts0 w (List.mem_cons_of_mem _ h)
  have hown : s.vm.findClass RX11 = some m.cls := findClass_of_methodNamed B.named
  have hlocks := B.notSynchronized
  subst hsz
  have hD := hD0
  generalize hAe : va_A [] s.heap.size = A at hZ ⊢
  have hA : ∀ q : Nat, s.heap.size ≤ q → A q := fun q h => by rw [← hAe]; exact Or.inr h
  have hS : va_S A s.heap s.heap [] := va_S.rf
  have hP : va_P (dC, dI) vwCl [(h0, .inr (11, oX w sg ro tr gX)), (tr, .inr (9, oT w sg ro gT 0 0 0 0))] s.heap := hP
  have hl := lv_entry ([.ref h0, .int a0]) (n := 2) (Nat.le_of_ble_eq_true rfl)
  rw [lg_entry_eq]
  generalize (lg_sl ([.ref h0, .int a0]) ++ List.replicate (2 - (lg_sl ([.ref h0, .int a0])).length) Slot.unset).toArray = ls at hl ⊢
  have hl : lv_has ls 2 [(0, .ref h0), (1, .int a0)] := hl
  refine lv_aload_n hx hb dX11_where_0 rfl (lv_at hl 0 rfl) ?_
  refine lv_iload_n hx hb dX11_where_1 rfl (lv_at hl 1 rfl) ?_
  have hPc := hP.sub (ws' := [(h0, .inr (11, oX w sg ro tr gX)), (tr, .inr (9, oT w sg ro gT 0 0 0 0))]) [0, 1] rfl
  have hDc := hD.sub (ws' := [(h0, .inr (11, oX w sg ro tr gX)), (tr, .inr (9, oT w sg ro gT 0 0 0 0))]) [0, 1] (by decide) rfl
  have hKc := hK.sub (tys' := []) [] rfl
  have hFc := roF hS hA
  refine vx_callv (vx_runV (As := [.int a0]) (rest := []) ⟨hx, hb, hml, hown, hts⟩ (c_X11_needPacket l dC dI s.heap.size hfl h0 w sg ro tr gX gT a0) (cwV 1 hts (gV u_1052 u_1054 v_27 u_1 u_1055) rfl rfl rfl (by decide +kernel) ⟨Nat.le_of_ble_eq_true rfl, Nat.le_of_ble_eq_true rfl⟩) ⟨gPZ_blind, va_recv hKc hPc (ci := 11) (q0 := 0) rfl rfl, gPZ_call hPc hKc hDc hE hZ hS hFc⟩ rfl rfl hl.1 rfl (lv_room (Nat.le_of_ble_eq_true rfl)) dX11_where_2 ⟨(Nat.le_of_ble_eq_true rfl), (Nat.le_of_ble_eq_true rfl)⟩) hS (fun q _ h => hFc q h) hFc (fun q _ h => hFc q h) (fun E9 ce9 q54 u9 t9 H52 locs ht hvm hpx hBX hz1 hk1 hS hce hcv hcl => ?_) (fun u9 t9 H52 locs ht hvm hw hB hz1 hk1 hS => hw.elim)
  exact vx_out (fun x h => (ht0 x h).elim) hlocks hce hcv hcl (fun t ht _ => ⟨(), trivial, hBX, hS.F ht⟩) hS.2.2 (Nat.le_of_ble_eq_true rfl) (Nat.le_of_ble_eq_true rfl)
set_option maxHeartbeats 4000000 in
set_option maxRecDepth 100000 in
theorem c_X11_source (l : Launch) (dC : Nat → ClassId) (dI : Nat → Nat → Nat) (sz : Nat) (hfl : l.stackTraces = false) (h0 : Nat) (w : Nat) (sg : Nat) (ro : Nat) (tr : Nat) (gX : Nat → Nat) (gT : Nat → Nat) (a0 : Int32) : vx_Met l yX11_source (Cond.code yX11_source cX11_source 2 (some .int) :: gU) ({ frames := 7, cells := 1, slots := 6, locals := 103 }) (gPZ dC dI sz [(h0, .inr (11, oX w sg ro tr gX)), (tr, .inr (9, oT w sg ro gT 0 0 0 0))] [] (va_A [] sz) [.ref h0, .int a0]) (va_Qi (fun (r : Int32) (_ : Unit) => False) (fun _ _ => True) (va_A [] sz)) (vx_X (fun _ : Unit => True) (fun E9 _ _ => E9 = "java/lang/IndexOutOfBoundsException") (va_A [] sz)) 1 6 (va_A [] sz) := by
  refine vx_ofW (cc := cX11_source) (maxL := 2) (ret := (some .int)) (by decide) rfl ?_
  intro p e s m args below meth c s₁ B hml ht0 hv
  obtain ⟨rfl, hsz, hP, hK, hD0, hE, hZ⟩ := hv
  have hx := B.exec
  have hb := B.bytes
  have hr := B.returns
  have hts0 := atoms_spec (ws := Cond.code yX11_source cX11_source 2 (some .int) :: gU) B.pre
  have hts : ∀ w ∈ gU, w.before _ s = true := fun w h => hts0 w (List.mem_cons_of_mem _ h)
  have hown : s.vm.findClass RX11 = some m.cls := findClass_of_methodNamed B.named
  have hlocks := B.notSynchronized
  subst hsz
  have hD := hD0
  generalize hAe : va_A [] s.heap.size = A at hZ ⊢
  have hA : ∀ q : Nat, s.heap.size ≤ q → A q := fun q h => by rw [← hAe]; exact Or.inr h
  have hS : va_S A s.heap s.heap [] := va_S.rf
  have hP : va_P (dC, dI) vwCl [(h0, .inr (11, oX w sg ro tr gX)), (tr, .inr (9, oT w sg ro gT 0 0 0 0))] s.heap := hP
  have hl := lv_entry ([.ref h0, .int a0]) (n := 2) (Nat.le_of_ble_eq_true rfl)
  rw [lg_entry_eq]
  generalize (lg_sl ([.ref h0, .int a0]) ++ List.replicate (2 - (lg_sl ([.ref h0, .int a0])).length) Slot.unset).toArray = ls at hl ⊢
  have hl : lv_has ls 2 [(0, .ref h0), (1, .int a0)] := hl
  refine lv_aload_n hx hb dX11_source_0 rfl (lv_at hl 0 rfl) ?_
  refine lv_iload_n hx hb dX11_source_1 rfl (lv_at hl 1 rfl) ?_
  have hPc := hP.sub (ws' := [(h0, .inr (11, oX w sg ro tr gX)), (tr, .inr (9, oT w sg ro gT 0 0 0 0))]) [0, 1] rfl
  have hDc := hD.sub (ws' := [(h0, .inr (11, oX w sg ro tr gX)), (tr, .inr (9, oT w sg ro gT 0 0 0 0))]) [0, 1] (by decide) rfl
  have hKc := hK.sub (tys' := []) [] rfl
  have hFc := roF hS hA
  refine vx_callv (vx_runV (As := [.int a0]) (rest := []) ⟨hx, hb, hml, hown, hts⟩ (c_X11_needPacket l dC dI s.heap.size hfl h0 w sg ro tr gX gT a0) (cwV 1 hts (gV u_1052 u_1054 v_27 u_1 u_1055) rfl rfl rfl (by decide +kernel) ⟨Nat.le_of_ble_eq_true rfl, Nat.le_of_ble_eq_true rfl⟩) ⟨gPZ_blind, va_recv hKc hPc (ci := 11) (q0 := 0) rfl rfl, gPZ_call hPc hKc hDc hE hZ hS hFc⟩ rfl rfl hl.1 rfl (lv_room (Nat.le_of_ble_eq_true rfl)) dX11_source_2 ⟨(Nat.le_of_ble_eq_true rfl), (Nat.le_of_ble_eq_true rfl)⟩) hS (fun q _ h => hFc q h) hFc (fun q _ h => hFc q h) (fun E9 ce9 q57 u9 t9 H55 locs ht hvm hpx hBX hz1 hk1 hS hce hcv hcl => ?_) (fun u9 t9 H55 locs ht hvm hw hB hz1 hk1 hS => hw.elim)
  exact vx_out (fun x h => (ht0 x h).elim) hlocks hce hcv hcl (fun t ht _ => ⟨(), trivial, hBX, hS.F ht⟩) hS.2.2 (Nat.le_of_ble_eq_true rfl) (Nat.le_of_ble_eq_true rfl)
set_option maxHeartbeats 4000000 in
set_option maxRecDepth 100000 in
theorem c_X11_noted (l : Launch) (dC : Nat → ClassId) (dI : Nat → Nat → Nat) (sz : Nat) (hfl : l.stackTraces = false) (h0 : Nat) (w : Nat) (sg : Nat) (ro : Nat) (tr : Nat) (gX : Nat → Nat) (kd : Nat) (gW : Nat → Nat) (a0 : Int32) (a1 : Int32) : vx_Met l yX11_noted (Cond.code yX11_noted cX11_noted 3 (some .int) :: gU) ({ frames := 7, cells := 1, slots := 6, locals := 103 }) (gPZ dC dI sz [(h0, .inr (11, oX w sg ro tr gX)), (w, .inr (10, oW kd gW 0 0))] [] (va_A [] sz) [.ref h0, .int a0, .int a1]) (va_Qi (fun (r : Int32) (_ : Unit) => False) (fun _ _ => True) (va_A [] sz)) (vx_X (fun _ : Unit => True) (fun E9 _ _ => E9 = "java/lang/IndexOutOfBoundsException") (va_A [] sz)) 1 6 (va_A [] sz) := by
  refine vx_ofW (cc := cX11_noted) (maxL := 3) (ret := (some .int)) (by decide) rfl ?_
  intro p e s m args below meth c s₁ B hml ht0 hv
  obtain ⟨rfl, hsz, hP, hK, hD0, hE, hZ⟩ := hv
  have hx := B.exec
  have hb := B.bytes
  have hr := B.returns
  have hts0 := atoms_spec (ws := Cond.code yX11_noted cX11_noted 3 (some .int) :: gU) B.pre
  have hts : ∀ w ∈ gU, w.before _ s = true := fun w h => hts0 w (List.mem_cons_of_mem _ h)
  have hown : s.vm.findClass RX11 = some m.cls := findClass_of_methodNamed B.named
  have hlocks := B.notSynchronized
  subst hsz
  have hD := hD0
  generalize hAe : va_A [] s.heap.size = A at hZ ⊢
  have hA : ∀ q : Nat, s.heap.size ≤ q → A q := fun q h => by rw [← hAe]; exact Or.inr h
  have hS : va_S A s.heap s.heap [] := va_S.rf
  have hP : va_P (dC, dI) vwCl [(h0, .inr (11, oX w sg ro tr gX)), (w, .inr (10, oW kd gW 0 0))] s.heap := hP
  have hl := lv_entry ([.ref h0, .int a0, .int a1]) (n := 3) (Nat.le_of_ble_eq_true rfl)
  rw [lg_entry_eq]
  generalize (lg_sl ([.ref h0, .int a0, .int a1]) ++ List.replicate (3 - (lg_sl ([.ref h0, .int a0, .int a1])).length) Slot.unset).toArray = ls at hl ⊢
  have hl : lv_has ls 3 [(0, .ref h0), (1, .int a0), (2, .int a1)] := hl
  refine lv_aload_n hx hb dX11_noted_0 rfl (lv_at hl 0 rfl) ?_
  refine lv_iload_n hx hb dX11_noted_1 rfl (lv_at hl 1 rfl) ?_
  have hPc := hP.sub (ws' := [(h0, .inr (11, oX w sg ro tr gX)), (w, .inr (10, oW kd gW 0 0))]) [0, 1] rfl
  have hDc := hD.sub (ws' := [(h0, .inr (11, oX w sg ro tr gX)), (w, .inr (10, oW kd gW 0 0))]) [0, 1] (by decide) rfl
  have hKc := hK.sub (tys' := []) [] rfl
  have hFc := roF hS hA
  refine vx_callv (vx_runV (As := [.int a0]) (rest := []) ⟨hx, hb, hml, hown, hts⟩ (c_X11_needBox l dC dI s.heap.size hfl h0 w sg ro tr gX kd gW a0) (cwV 1 hts (gV u_782 u_784 v_12 u_1 u_785) rfl rfl rfl (by decide +kernel) ⟨Nat.le_of_ble_eq_true rfl, Nat.le_of_ble_eq_true rfl⟩) ⟨gPZ_blind, va_recv hKc hPc (ci := 11) (q0 := 0) rfl rfl, gPZ_call hPc hKc hDc hE hZ hS hFc⟩ rfl rfl hl.1 rfl (lv_room (Nat.le_of_ble_eq_true rfl)) dX11_noted_2 ⟨(Nat.le_of_ble_eq_true rfl), (Nat.le_of_ble_eq_true rfl)⟩) hS (fun q _ h => hFc q h) hFc (fun q _ h => hFc q h) (fun E9 ce9 q60 u9 t9 H58 locs ht hvm hpx hBX hz1 hk1 hS hce hcv hcl => ?_) (fun u9 t9 H58 locs ht hvm hw hB hz1 hk1 hS => hw.elim)
  exact vx_out (fun x h => (ht0 x h).elim) hlocks hce hcv hcl (fun t ht _ => ⟨(), trivial, hBX, hS.F ht⟩) hS.2.2 (Nat.le_of_ble_eq_true rfl) (Nat.le_of_ble_eq_true rfl)
set_option maxHeartbeats 4000000 in
set_option maxRecDepth 100000 in
theorem c_X11_learnt (l : Launch) (dC : Nat → ClassId) (dI : Nat → Nat → Nat) (sz : Nat) (hfl : l.stackTraces = false) (h0 : Nat) (w : Nat) (sg : Nat) (ro : Nat) (tr : Nat) (gX : Nat → Nat) (kd : Nat) (gW : Nat → Nat) (a0 : Int32) (a1 : Int32) (a2 : Int32) : vx_Met l yX11_learnt (Cond.code yX11_learnt cX11_learnt 4 (some .int) :: gU) ({ frames := 7, cells := 1, slots := 6, locals := 103 }) (gPZ dC dI sz [(h0, .inr (11, oX w sg ro tr gX)), (w, .inr (10, oW kd gW 0 0))] [] (va_A [] sz) [.ref h0, .int a0, .int a1, .int a2]) (va_Qi (fun (r : Int32) (_ : Unit) => False) (fun _ _ => True) (va_A [] sz)) (vx_X (fun _ : Unit => True) (fun E9 _ _ => E9 = "java/lang/IndexOutOfBoundsException") (va_A [] sz)) 1 6 (va_A [] sz) := by
  refine vx_ofW (cc := cX11_learnt) (maxL := 4) (ret := (some .int)) (by decide) rfl ?_
  intro p e s m args below meth c s₁ B hml ht0 hv
  obtain ⟨rfl, hsz, hP, hK, hD0, hE, hZ⟩ := hv
  have hx := B.exec
  have hb := B.bytes
  have hr := B.returns
  have hts0 := atoms_spec (ws := Cond.code yX11_learnt cX11_learnt 4 (some .int) :: gU) B.pre
  have hts : ∀ w ∈ gU, w.before _ s = true := fun w h => hts0 w (List.mem_cons_of_mem _ h)
  have hown : s.vm.findClass RX11 = some m.cls := findClass_of_methodNamed B.named
  have hlocks := B.notSynchronized
  subst hsz
  have hD := hD0
  generalize hAe : va_A [] s.heap.size = A at hZ ⊢
  have hA : ∀ q : Nat, s.heap.size ≤ q → A q := fun q h => by rw [← hAe]; exact Or.inr h
  have hS : va_S A s.heap s.heap [] := va_S.rf
  have hP : va_P (dC, dI) vwCl [(h0, .inr (11, oX w sg ro tr gX)), (w, .inr (10, oW kd gW 0 0))] s.heap := hP
  have hl := lv_entry ([.ref h0, .int a0, .int a1, .int a2]) (n := 4) (Nat.le_of_ble_eq_true rfl)
  rw [lg_entry_eq]
  generalize (lg_sl ([.ref h0, .int a0, .int a1, .int a2]) ++ List.replicate (4 - (lg_sl ([.ref h0, .int a0, .int a1, .int a2])).length) Slot.unset).toArray = ls at hl ⊢
  have hl : lv_has ls 4 [(0, .ref h0), (1, .int a0), (2, .int a1), (3, .int a2)] := hl
  refine lv_aload_n hx hb dX11_learnt_0 rfl (lv_at hl 0 rfl) ?_
  refine lv_iload_n hx hb dX11_learnt_1 rfl (lv_at hl 1 rfl) ?_
  have hPc := hP.sub (ws' := [(h0, .inr (11, oX w sg ro tr gX)), (w, .inr (10, oW kd gW 0 0))]) [0, 1] rfl
  have hDc := hD.sub (ws' := [(h0, .inr (11, oX w sg ro tr gX)), (w, .inr (10, oW kd gW 0 0))]) [0, 1] (by decide) rfl
  have hKc := hK.sub (tys' := []) [] rfl
  have hFc := roF hS hA
  refine vx_callv (vx_runV (As := [.int a0]) (rest := []) ⟨hx, hb, hml, hown, hts⟩ (c_X11_needBox l dC dI s.heap.size hfl h0 w sg ro tr gX kd gW a0) (cwV 1 hts (gV u_782 u_784 v_12 u_1 u_785) rfl rfl rfl (by decide +kernel) ⟨Nat.le_of_ble_eq_true rfl, Nat.le_of_ble_eq_true rfl⟩) ⟨gPZ_blind, va_recv hKc hPc (ci := 11) (q0 := 0) rfl rfl, gPZ_call hPc hKc hDc hE hZ hS hFc⟩ rfl rfl hl.1 rfl (lv_room (Nat.le_of_ble_eq_true rfl)) dX11_learnt_2 ⟨(Nat.le_of_ble_eq_true rfl), (Nat.le_of_ble_eq_true rfl)⟩) hS (fun q _ h => hFc q h) hFc (fun q _ h => hFc q h) (fun E9 ce9 q63 u9 t9 H61 locs ht hvm hpx hBX hz1 hk1 hS hce hcv hcl => ?_) (fun u9 t9 H61 locs ht hvm hw hB hz1 hk1 hS => hw.elim)
  exact vx_out (fun x h => (ht0 x h).elim) hlocks hce hcv hcl (fun t ht _ => ⟨(), trivial, hBX, hS.F ht⟩) hS.2.2 (Nat.le_of_ble_eq_true rfl) (Nat.le_of_ble_eq_true rfl)
set_option maxHeartbeats 4000000 in
set_option maxRecDepth 100000 in
theorem c_X11_reach (l : Launch) (dC : Nat → ClassId) (dI : Nat → Nat → Nat) (sz : Nat) (hfl : l.stackTraces = false) (h0 : Nat) (w : Nat) (sg : Nat) (ro : Nat) (tr : Nat) (gX : Nat → Nat) (kd : Nat) (gW : Nat → Nat) (a0 : Int32) (a1 : Int32) : vx_Met l yX11_reach (Cond.code yX11_reach cX11_reach 3 (some .int) :: gU) ({ frames := 7, cells := 1, slots := 6, locals := 103 }) (gPZ dC dI sz [(h0, .inr (11, oX w sg ro tr gX)), (w, .inr (10, oW kd gW 0 0))] [] (va_A [] sz) [.ref h0, .int a0, .int a1]) (va_Qi (fun (r : Int32) (_ : Unit) => False) (fun _ _ => True) (va_A [] sz)) (vx_X (fun _ : Unit => True) (fun E9 _ _ => E9 = "java/lang/IndexOutOfBoundsException") (va_A [] sz)) 1 6 (va_A [] sz) := by
  refine vx_ofW (cc := cX11_reach) (maxL := 3) (ret := (some .int)) (by decide) rfl ?_
  intro p e s m args below meth c s₁ B hml ht0 hv
  obtain ⟨rfl, hsz, hP, hK, hD0, hE, hZ⟩ := hv
  have hx := B.exec
  have hb := B.bytes
  have hr := B.returns
  have hts0 := atoms_spec (ws := Cond.code yX11_reach cX11_reach 3 (some .int) :: gU) B.pre
  have hts : ∀ w ∈ gU, w.before _ s = true := fun w h => hts0 w (List.mem_cons_of_mem _ h)
  have hown : s.vm.findClass RX11 = some m.cls := findClass_of_methodNamed B.named
  have hlocks := B.notSynchronized
  subst hsz
  have hD := hD0
  generalize hAe : va_A [] s.heap.size = A at hZ ⊢
  have hA : ∀ q : Nat, s.heap.size ≤ q → A q := fun q h => by rw [← hAe]; exact Or.inr h
  have hS : va_S A s.heap s.heap [] := va_S.rf
  have hP : va_P (dC, dI) vwCl [(h0, .inr (11, oX w sg ro tr gX)), (w, .inr (10, oW kd gW 0 0))] s.heap := hP
  have hl := lv_entry ([.ref h0, .int a0, .int a1]) (n := 3) (Nat.le_of_ble_eq_true rfl)
  rw [lg_entry_eq]
  generalize (lg_sl ([.ref h0, .int a0, .int a1]) ++ List.replicate (3 - (lg_sl ([.ref h0, .int a0, .int a1])).length) Slot.unset).toArray = ls at hl ⊢
  have hl : lv_has ls 3 [(0, .ref h0), (1, .int a0), (2, .int a1)] := hl
  refine lv_aload_n hx hb dX11_reach_0 rfl (lv_at hl 0 rfl) ?_
  refine lv_iload_n hx hb dX11_reach_1 rfl (lv_at hl 1 rfl) ?_
  have hPc := hP.sub (ws' := [(h0, .inr (11, oX w sg ro tr gX)), (w, .inr (10, oW kd gW 0 0))]) [0, 1] rfl
  have hDc := hD.sub (ws' := [(h0, .inr (11, oX w sg ro tr gX)), (w, .inr (10, oW kd gW 0 0))]) [0, 1] (by decide) rfl
  have hKc := hK.sub (tys' := []) [] rfl
  have hFc := roF hS hA
  refine vx_callv (vx_runV (As := [.int a0]) (rest := []) ⟨hx, hb, hml, hown, hts⟩ (c_X11_needBox l dC dI s.heap.size hfl h0 w sg ro tr gX kd gW a0) (cwV 1 hts (gV u_782 u_784 v_12 u_1 u_785) rfl rfl rfl (by decide +kernel) ⟨Nat.le_of_ble_eq_true rfl, Nat.le_of_ble_eq_true rfl⟩) ⟨gPZ_blind, va_recv hKc hPc (ci := 11) (q0 := 0) rfl rfl, gPZ_call hPc hKc hDc hE hZ hS hFc⟩ rfl rfl hl.1 rfl (lv_room (Nat.le_of_ble_eq_true rfl)) dX11_reach_2 ⟨(Nat.le_of_ble_eq_true rfl), (Nat.le_of_ble_eq_true rfl)⟩) hS (fun q _ h => hFc q h) hFc (fun q _ h => hFc q h) (fun E9 ce9 q66 u9 t9 H64 locs ht hvm hpx hBX hz1 hk1 hS hce hcv hcl => ?_) (fun u9 t9 H64 locs ht hvm hw hB hz1 hk1 hS => hw.elim)
  exact vx_out (fun x h => (ht0 x h).elim) hlocks hce hcv hcl (fun t ht _ => ⟨(), trivial, hBX, hS.F ht⟩) hS.2.2 (Nat.le_of_ble_eq_true rfl) (Nat.le_of_ble_eq_true rfl)
set_option maxHeartbeats 4000000 in
set_option maxRecDepth 100000 in
theorem c_X11_reachAnew (l : Launch) (dC : Nat → ClassId) (dI : Nat → Nat → Nat) (sz : Nat) (hfl : l.stackTraces = false) (h0 : Nat) (w : Nat) (sg : Nat) (ro : Nat) (tr : Nat) (gX : Nat → Nat) (kd : Nat) (gW : Nat → Nat) (a0 : Int32) (a1 : Int32) : vx_Met l yX11_reachAnew (Cond.code yX11_reachAnew cX11_reachAnew 3 (some .int) :: gU) ({ frames := 7, cells := 1, slots := 6, locals := 103 }) (gPZ dC dI sz [(h0, .inr (11, oX w sg ro tr gX)), (w, .inr (10, oW kd gW 0 0))] [] (va_A [] sz) [.ref h0, .int a0, .int a1]) (va_Qi (fun (r : Int32) (_ : Unit) => False) (fun _ _ => True) (va_A [] sz)) (vx_X (fun _ : Unit => True) (fun E9 _ _ => E9 = "java/lang/IndexOutOfBoundsException") (va_A [] sz)) 1 6 (va_A [] sz) := by
  refine vx_ofW (cc := cX11_reachAnew) (maxL := 3) (ret := (some .int)) (by decide) rfl ?_
  intro p e s m args below meth c s₁ B hml ht0 hv
  obtain ⟨rfl, hsz, hP, hK, hD0, hE, hZ⟩ := hv
  have hx := B.exec
  have hb := B.bytes
  have hr := B.returns
  have hts0 := atoms_spec (ws := Cond.code yX11_reachAnew cX11_reachAnew 3 (some .int) :: gU) B.pre
  have hts : ∀ w ∈ gU, w.before _ s = true := fun w h => hts0 w (List.mem_cons_of_mem _ h)
  have hown : s.vm.findClass RX11 = some m.cls := findClass_of_methodNamed B.named
  have hlocks := B.notSynchronized
  subst hsz
  have hD := hD0
  generalize hAe : va_A [] s.heap.size = A at hZ ⊢
  have hA : ∀ q : Nat, s.heap.size ≤ q → A q := fun q h => by rw [← hAe]; exact Or.inr h
  have hS : va_S A s.heap s.heap [] := va_S.rf
  have hP : va_P (dC, dI) vwCl [(h0, .inr (11, oX w sg ro tr gX)), (w, .inr (10, oW kd gW 0 0))] s.heap := hP
  have hl := lv_entry ([.ref h0, .int a0, .int a1]) (n := 3) (Nat.le_of_ble_eq_true rfl)
  rw [lg_entry_eq]
  generalize (lg_sl ([.ref h0, .int a0, .int a1]) ++ List.replicate (3 - (lg_sl ([.ref h0, .int a0, .int a1])).length) Slot.unset).toArray = ls at hl ⊢
  have hl : lv_has ls 3 [(0, .ref h0), (1, .int a0), (2, .int a1)] := hl
  refine lv_aload_n hx hb dX11_reachAnew_0 rfl (lv_at hl 0 rfl) ?_
  refine lv_iload_n hx hb dX11_reachAnew_1 rfl (lv_at hl 1 rfl) ?_
  have hPc := hP.sub (ws' := [(h0, .inr (11, oX w sg ro tr gX)), (w, .inr (10, oW kd gW 0 0))]) [0, 1] rfl
  have hDc := hD.sub (ws' := [(h0, .inr (11, oX w sg ro tr gX)), (w, .inr (10, oW kd gW 0 0))]) [0, 1] (by decide) rfl
  have hKc := hK.sub (tys' := []) [] rfl
  have hFc := roF hS hA
  refine vx_callv (vx_runV (As := [.int a0]) (rest := []) ⟨hx, hb, hml, hown, hts⟩ (c_X11_needBox l dC dI s.heap.size hfl h0 w sg ro tr gX kd gW a0) (cwV 1 hts (gV u_782 u_784 v_12 u_1 u_785) rfl rfl rfl (by decide +kernel) ⟨Nat.le_of_ble_eq_true rfl, Nat.le_of_ble_eq_true rfl⟩) ⟨gPZ_blind, va_recv hKc hPc (ci := 11) (q0 := 0) rfl rfl, gPZ_call hPc hKc hDc hE hZ hS hFc⟩ rfl rfl hl.1 rfl (lv_room (Nat.le_of_ble_eq_true rfl)) dX11_reachAnew_2 ⟨(Nat.le_of_ble_eq_true rfl), (Nat.le_of_ble_eq_true rfl)⟩) hS (fun q _ h => hFc q h) hFc (fun q _ h => hFc q h) (fun E9 ce9 q69 u9 t9 H67 locs ht hvm hpx hBX hz1 hk1 hS hce hcv hcl => ?_) (fun u9 t9 H67 locs ht hvm hw hB hz1 hk1 hS => hw.elim)
  exact vx_out (fun x h => (ht0 x h).elim) hlocks hce hcv hcl (fun t ht _ => ⟨(), trivial, hBX, hS.F ht⟩) hS.2.2 (Nat.le_of_ble_eq_true rfl) (Nat.le_of_ble_eq_true rfl)
set_option maxHeartbeats 4000000 in
set_option maxRecDepth 100000 in
theorem c_X11_proved (l : Launch) (dC : Nat → ClassId) (dI : Nat → Nat → Nat) (sz : Nat) (hfl : l.stackTraces = false) (h0 : Nat) (w : Nat) (sg : Nat) (ro : Nat) (tr : Nat) (gX : Nat → Nat) (kd : Nat) (gW : Nat → Nat) (a0 : Int32) (a1 : Int32) (a2 : Int32) : vx_Met l yX11_proved (Cond.code yX11_proved cX11_proved 4 (some .int) :: gU) ({ frames := 7, cells := 1, slots := 6, locals := 103 }) (gPZ dC dI sz [(h0, .inr (11, oX w sg ro tr gX)), (w, .inr (10, oW kd gW 0 0))] [] (va_A [] sz) [.ref h0, .int a0, .int a1, .int a2]) (va_Qi (fun (r : Int32) (_ : Unit) => False) (fun _ _ => True) (va_A [] sz)) (vx_X (fun _ : Unit => True) (fun E9 _ _ => E9 = "java/lang/IndexOutOfBoundsException") (va_A [] sz)) 1 6 (va_A [] sz) := by
  refine vx_ofW (cc := cX11_proved) (maxL := 4) (ret := (some .int)) (by decide) rfl ?_
  intro p e s m args below meth c s₁ B hml ht0 hv
  obtain ⟨rfl, hsz, hP, hK, hD0, hE, hZ⟩ := hv
  have hx := B.exec
  have hb := B.bytes
  have hr := B.returns
  have hts0 := atoms_spec (ws := Cond.code yX11_proved cX11_proved 4 (some .int) :: gU) B.pre
  have hts : ∀ w ∈ gU, w.before _ s = true := fun w h => hts0 w (List.mem_cons_of_mem _ h)
  have hown : s.vm.findClass RX11 = some m.cls := findClass_of_methodNamed B.named
  have hlocks := B.notSynchronized
  subst hsz
  have hD := hD0
  generalize hAe : va_A [] s.heap.size = A at hZ ⊢
  have hA : ∀ q : Nat, s.heap.size ≤ q → A q := fun q h => by rw [← hAe]; exact Or.inr h
  have hS : va_S A s.heap s.heap [] := va_S.rf
  have hP : va_P (dC, dI) vwCl [(h0, .inr (11, oX w sg ro tr gX)), (w, .inr (10, oW kd gW 0 0))] s.heap := hP
  have hl := lv_entry ([.ref h0, .int a0, .int a1, .int a2]) (n := 4) (Nat.le_of_ble_eq_true rfl)
  rw [lg_entry_eq]
  generalize (lg_sl ([.ref h0, .int a0, .int a1, .int a2]) ++ List.replicate (4 - (lg_sl ([.ref h0, .int a0, .int a1, .int a2])).length) Slot.unset).toArray = ls at hl ⊢
  have hl : lv_has ls 4 [(0, .ref h0), (1, .int a0), (2, .int a1), (3, .int a2)] := hl
  refine lv_aload_n hx hb dX11_proved_0 rfl (lv_at hl 0 rfl) ?_
  refine lv_iload_n hx hb dX11_proved_1 rfl (lv_at hl 1 rfl) ?_
  have hPc := hP.sub (ws' := [(h0, .inr (11, oX w sg ro tr gX)), (w, .inr (10, oW kd gW 0 0))]) [0, 1] rfl
  have hDc := hD.sub (ws' := [(h0, .inr (11, oX w sg ro tr gX)), (w, .inr (10, oW kd gW 0 0))]) [0, 1] (by decide) rfl
  have hKc := hK.sub (tys' := []) [] rfl
  have hFc := roF hS hA
  refine vx_callv (vx_runV (As := [.int a0]) (rest := []) ⟨hx, hb, hml, hown, hts⟩ (c_X11_needBox l dC dI s.heap.size hfl h0 w sg ro tr gX kd gW a0) (cwV 1 hts (gV u_782 u_784 v_12 u_1 u_785) rfl rfl rfl (by decide +kernel) ⟨Nat.le_of_ble_eq_true rfl, Nat.le_of_ble_eq_true rfl⟩) ⟨gPZ_blind, va_recv hKc hPc (ci := 11) (q0 := 0) rfl rfl, gPZ_call hPc hKc hDc hE hZ hS hFc⟩ rfl rfl hl.1 rfl (lv_room (Nat.le_of_ble_eq_true rfl)) dX11_proved_2 ⟨(Nat.le_of_ble_eq_true rfl), (Nat.le_of_ble_eq_true rfl)⟩) hS (fun q _ h => hFc q h) hFc (fun q _ h => hFc q h) (fun E9 ce9 q72 u9 t9 H70 locs ht hvm hpx hBX hz1 hk1 hS hce hcv hcl => ?_) (fun u9 t9 H70 locs ht hvm hw hB hz1 hk1 hS => hw.elim)
  exact vx_out (fun x h => (ht0 x h).elim) hlocks hce hcv hcl (fun t ht _ => ⟨(), trivial, hBX, hS.F ht⟩) hS.2.2 (Nat.le_of_ble_eq_true rfl) (Nat.le_of_ble_eq_true rfl)
set_option maxHeartbeats 4000000 in
set_option maxRecDepth 100000 in
theorem c_X11_way (l : Launch) (dC : Nat → ClassId) (dI : Nat → Nat → Nat) (sz : Nat) (hfl : l.stackTraces = false) (h0 : Nat) (w : Nat) (sg : Nat) (ro : Nat) (tr : Nat) (gX : Nat → Nat) (kd : Nat) (gW : Nat → Nat) (a0 : Int32) (a1 : Int32) (a2 : Int32) (a3 : Int32) : vx_Met l yX11_way (Cond.code yX11_way cX11_way 5 (some .int) :: gU) ({ frames := 7, cells := 1, slots := 6, locals := 103 }) (gPZ dC dI sz [(h0, .inr (11, oX w sg ro tr gX)), (w, .inr (10, oW kd gW 0 0))] [] (va_A [] sz) [.ref h0, .int a0, .int a1, .int a2, .int a3]) (va_Qi (fun (r : Int32) (_ : Unit) => False) (fun _ _ => True) (va_A [] sz)) (vx_X (fun _ : Unit => True) (fun E9 _ _ => E9 = "java/lang/IndexOutOfBoundsException") (va_A [] sz)) 1 6 (va_A [] sz) := by
  refine vx_ofW (cc := cX11_way) (maxL := 5) (ret := (some .int)) (by decide) rfl ?_
  intro p e s m args below meth c s₁ B hml ht0 hv
  obtain ⟨rfl, hsz, hP, hK, hD0, hE, hZ⟩ := hv
  have hx := B.exec
  have hb := B.bytes
  have hr := B.returns
  have hts0 := atoms_spec (ws := Cond.code yX11_way cX11_way 5 (some .int) :: gU) B.pre
  have hts : ∀ w ∈ gU, w.before _ s = true := fun w h => hts0 w (List.mem_cons_of_mem _ h)
  have hown : s.vm.findClass RX11 = some m.cls := findClass_of_methodNamed B.named
  have hlocks := B.notSynchronized
  subst hsz
  have hD := hD0
  generalize hAe : va_A [] s.heap.size = A at hZ ⊢
  have hA : ∀ q : Nat, s.heap.size ≤ q → A q := fun q h => by rw [← hAe]; exact Or.inr h
  have hS : va_S A s.heap s.heap [] := va_S.rf
  have hP : va_P (dC, dI) vwCl [(h0, .inr (11, oX w sg ro tr gX)), (w, .inr (10, oW kd gW 0 0))] s.heap := hP
  have hl := lv_entry ([.ref h0, .int a0, .int a1, .int a2, .int a3]) (n := 5) (Nat.le_of_ble_eq_true rfl)
  rw [lg_entry_eq]
  generalize (lg_sl ([.ref h0, .int a0, .int a1, .int a2, .int a3]) ++ List.replicate (5 - (lg_sl ([.ref h0, .int a0, .int a1, .int a2, .int a3])).length) Slot.unset).toArray = ls at hl ⊢
  have hl : lv_has ls 5 [(0, .ref h0), (1, .int a0), (2, .int a1), (3, .int a2), (4, .int a3)] := hl
  refine lv_aload_n hx hb dX11_way_0 rfl (lv_at hl 0 rfl) ?_
  refine lv_iload_n hx hb dX11_way_1 rfl (lv_at hl 1 rfl) ?_
  have hPc := hP.sub (ws' := [(h0, .inr (11, oX w sg ro tr gX)), (w, .inr (10, oW kd gW 0 0))]) [0, 1] rfl
  have hDc := hD.sub (ws' := [(h0, .inr (11, oX w sg ro tr gX)), (w, .inr (10, oW kd gW 0 0))]) [0, 1] (by decide) rfl
  have hKc := hK.sub (tys' := []) [] rfl
  have hFc := roF hS hA
  refine vx_callv (vx_runV (As := [.int a0]) (rest := []) ⟨hx, hb, hml, hown, hts⟩ (c_X11_needBox l dC dI s.heap.size hfl h0 w sg ro tr gX kd gW a0) (cwV 1 hts (gV u_782 u_784 v_12 u_1 u_785) rfl rfl rfl (by decide +kernel) ⟨Nat.le_of_ble_eq_true rfl, Nat.le_of_ble_eq_true rfl⟩) ⟨gPZ_blind, va_recv hKc hPc (ci := 11) (q0 := 0) rfl rfl, gPZ_call hPc hKc hDc hE hZ hS hFc⟩ rfl rfl hl.1 rfl (lv_room (Nat.le_of_ble_eq_true rfl)) dX11_way_2 ⟨(Nat.le_of_ble_eq_true rfl), (Nat.le_of_ble_eq_true rfl)⟩) hS (fun q _ h => hFc q h) hFc (fun q _ h => hFc q h) (fun E9 ce9 q75 u9 t9 H73 locs ht hvm hpx hBX hz1 hk1 hS hce hcv hcl => ?_) (fun u9 t9 H73 locs ht hvm hw hB hz1 hk1 hS => hw.elim)
  exact vx_out (fun x h => (ht0 x h).elim) hlocks hce hcv hcl (fun t ht _ => ⟨(), trivial, hBX, hS.F ht⟩) hS.2.2 (Nat.le_of_ble_eq_true rfl) (Nat.le_of_ble_eq_true rfl)
end
section
theorem dL_address_0 : decode cL_address 0 = .ok (.aload 4, 2) := by decide +kernel
theorem dL_address_2 : decode cL_address 2 = .ok (.iconst 0, 1) := by decide +kernel
theorem dL_address_3 : decode cL_address 3 = .ok (.aload_n 0, 1) := by decide +kernel
theorem dL_address_4 : decode cL_address 4 = .ok (.iload_n 1, 1) := by decide +kernel
theorem dL_address_5 : decode cL_address 5 = .ok (.iload_n 2, 1) := by decide +kernel
theorem dL_address_6 : decode cL_address 6 = .ok (.iload_n 3, 1) := by decide +kernel
theorem dL_address_7 : decode cL_address 7 = .ok (.invokevirtual 37, 3) := by decide +kernel
theorem dL_address_15 : decode cL_address 15 = .ok (.astore 5, 2) := by decide +kernel
theorem dL_address_17 : decode cL_address 17 = .ok (.iconst 1, 1) := by decide +kernel
theorem dL_address_18 : decode cL_address 18 = .ok (.ireturn, 1) := by decide +kernel
theorem dL_cable_0 : decode cL_cable 0 = .ok (.aload_n 3, 1) := by decide +kernel
theorem dL_cable_1 : decode cL_cable 1 = .ok (.iconst 0, 1) := by decide +kernel
theorem dL_cable_2 : decode cL_cable 2 = .ok (.aload_n 0, 1) := by decide +kernel
theorem dL_cable_3 : decode cL_cable 3 = .ok (.iload_n 1, 1) := by decide +kernel
theorem dL_cable_4 : decode cL_cable 4 = .ok (.iload_n 2, 1) := by decide +kernel
theorem dL_cable_5 : decode cL_cable 5 = .ok (.invokevirtual 17, 3) := by decide +kernel
theorem dL_cable_13 : decode cL_cable 13 = .ok (.astore 4, 2) := by decide +kernel
theorem dL_cable_15 : decode cL_cable 15 = .ok (.iconst 1, 1) := by decide +kernel
theorem dL_cable_16 : decode cL_cable 16 = .ok (.ireturn, 1) := by decide +kernel
theorem dL_fate_0 : decode cL_fate 0 = .ok (.aload_n 2, 1) := by decide +kernel
theorem dL_fate_1 : decode cL_fate 1 = .ok (.iconst 0, 1) := by decide +kernel
theorem dL_fate_2 : decode cL_fate 2 = .ok (.aload_n 0, 1) := by decide +kernel
theorem dL_fate_3 : decode cL_fate 3 = .ok (.iload_n 1, 1) := by decide +kernel
theorem dL_fate_4 : decode cL_fate 4 = .ok (.invokevirtual 65, 3) := by decide +kernel
theorem dL_fate_12 : decode cL_fate 12 = .ok (.astore_n 3, 1) := by decide +kernel
theorem dL_fate_13 : decode cL_fate 13 = .ok (.iconst 1, 1) := by decide +kernel
theorem dL_fate_14 : decode cL_fate 14 = .ok (.ireturn, 1) := by decide +kernel
theorem dL_gateway_0 : decode cL_gateway 0 = .ok (.aload_n 3, 1) := by decide +kernel
theorem dL_gateway_1 : decode cL_gateway 1 = .ok (.iconst 0, 1) := by decide +kernel
theorem dL_gateway_2 : decode cL_gateway 2 = .ok (.aload_n 0, 1) := by decide +kernel
theorem dL_gateway_3 : decode cL_gateway 3 = .ok (.iload_n 1, 1) := by decide +kernel
theorem dL_gateway_4 : decode cL_gateway 4 = .ok (.iload_n 2, 1) := by decide +kernel
theorem dL_gateway_5 : decode cL_gateway 5 = .ok (.invokevirtual 41, 3) := by decide +kernel
theorem dL_gateway_13 : decode cL_gateway 13 = .ok (.astore 4, 2) := by decide +kernel
theorem dL_gateway_15 : decode cL_gateway 15 = .ok (.iconst 1, 1) := by decide +kernel
theorem dL_gateway_16 : decode cL_gateway 16 = .ok (.ireturn, 1) := by decide +kernel
theorem dL_isBlocked_0 : decode cL_isBlocked 0 = .ok (.aload_n 2, 1) := by decide +kernel
theorem dL_isBlocked_1 : decode cL_isBlocked 1 = .ok (.iconst 0, 1) := by decide +kernel
theorem dL_isBlocked_2 : decode cL_isBlocked 2 = .ok (.aload_n 0, 1) := by decide +kernel
theorem dL_isBlocked_3 : decode cL_isBlocked 3 = .ok (.iload_n 1, 1) := by decide +kernel
theorem dL_isBlocked_4 : decode cL_isBlocked 4 = .ok (.invokevirtual 27, 3) := by decide +kernel
theorem dL_isBlocked_19 : decode cL_isBlocked 19 = .ok (.astore_n 3, 1) := by decide +kernel
theorem dL_isBlocked_20 : decode cL_isBlocked 20 = .ok (.iconst 1, 1) := by decide +kernel
theorem dL_isBlocked_21 : decode cL_isBlocked 21 = .ok (.ireturn, 1) := by decide +kernel
theorem dL_learnt_0 : decode cL_learnt 0 = .ok (.aload 4, 2) := by decide +kernel
theorem dL_learnt_2 : decode cL_learnt 2 = .ok (.iconst 0, 1) := by decide +kernel
theorem dL_learnt_3 : decode cL_learnt 3 = .ok (.aload_n 0, 1) := by decide +kernel
theorem dL_learnt_4 : decode cL_learnt 4 = .ok (.iload_n 1, 1) := by decide +kernel
theorem dL_learnt_5 : decode cL_learnt 5 = .ok (.iload_n 2, 1) := by decide +kernel
theorem dL_learnt_6 : decode cL_learnt 6 = .ok (.iload_n 3, 1) := by decide +kernel
theorem dL_learnt_7 : decode cL_learnt 7 = .ok (.invokevirtual 77, 3) := by decide +kernel
theorem dL_learnt_15 : decode cL_learnt 15 = .ok (.astore 5, 2) := by decide +kernel
theorem dL_learnt_17 : decode cL_learnt 17 = .ok (.iconst 1, 1) := by decide +kernel
theorem dL_learnt_18 : decode cL_learnt 18 = .ok (.ireturn, 1) := by decide +kernel
theorem dL_net_0 : decode cL_net 0 = .ok (.aload_n 3, 1) := by decide +kernel
theorem dL_net_1 : decode cL_net 1 = .ok (.iconst 0, 1) := by decide +kernel
theorem dL_net_2 : decode cL_net 2 = .ok (.aload_n 0, 1) := by decide +kernel
theorem dL_net_3 : decode cL_net 3 = .ok (.iload_n 1, 1) := by decide +kernel
theorem dL_net_4 : decode cL_net 4 = .ok (.iload_n 2, 1) := by decide +kernel
theorem dL_net_5 : decode cL_net 5 = .ok (.invokevirtual 30, 3) := by decide +kernel
theorem dL_net_13 : decode cL_net 13 = .ok (.astore 4, 2) := by decide +kernel
theorem dL_net_15 : decode cL_net 15 = .ok (.iconst 1, 1) := by decide +kernel
theorem dL_net_16 : decode cL_net 16 = .ok (.ireturn, 1) := by decide +kernel
theorem dL_noted_0 : decode cL_noted 0 = .ok (.aload_n 3, 1) := by decide +kernel
theorem dL_noted_1 : decode cL_noted 1 = .ok (.iconst 0, 1) := by decide +kernel
theorem dL_noted_2 : decode cL_noted 2 = .ok (.aload_n 0, 1) := by decide +kernel
theorem dL_noted_3 : decode cL_noted 3 = .ok (.iload_n 1, 1) := by decide +kernel
theorem dL_noted_4 : decode cL_noted 4 = .ok (.iload_n 2, 1) := by decide +kernel
theorem dL_noted_5 : decode cL_noted 5 = .ok (.invokevirtual 74, 3) := by decide +kernel
theorem dL_noted_13 : decode cL_noted 13 = .ok (.astore 4, 2) := by decide +kernel
theorem dL_noted_15 : decode cL_noted 15 = .ok (.iconst 1, 1) := by decide +kernel
theorem dL_noted_16 : decode cL_noted 16 = .ok (.ireturn, 1) := by decide +kernel
theorem dL_pool_0 : decode cL_pool 0 = .ok (.aload 4, 2) := by decide +kernel
theorem dL_pool_2 : decode cL_pool 2 = .ok (.iconst 0, 1) := by decide +kernel
theorem dL_pool_3 : decode cL_pool 3 = .ok (.aload_n 0, 1) := by decide +kernel
theorem dL_pool_4 : decode cL_pool 4 = .ok (.iload_n 1, 1) := by decide +kernel
theorem dL_pool_5 : decode cL_pool 5 = .ok (.iload_n 2, 1) := by decide +kernel
theorem dL_pool_6 : decode cL_pool 6 = .ok (.iload_n 3, 1) := by decide +kernel
theorem dL_pool_7 : decode cL_pool 7 = .ok (.invokevirtual 56, 3) := by decide +kernel
theorem dL_pool_15 : decode cL_pool 15 = .ok (.astore 5, 2) := by decide +kernel
theorem dL_pool_17 : decode cL_pool 17 = .ok (.iconst 1, 1) := by decide +kernel
theorem dL_pool_18 : decode cL_pool 18 = .ok (.ireturn, 1) := by decide +kernel
theorem dL_proved_0 : decode cL_proved 0 = .ok (.aload 4, 2) := by decide +kernel
theorem dL_proved_2 : decode cL_proved 2 = .ok (.iconst 0, 1) := by decide +kernel
theorem dL_proved_3 : decode cL_proved 3 = .ok (.aload_n 0, 1) := by decide +kernel
theorem dL_proved_4 : decode cL_proved 4 = .ok (.iload_n 1, 1) := by decide +kernel
theorem dL_proved_5 : decode cL_proved 5 = .ok (.iload_n 2, 1) := by decide +kernel
theorem dL_proved_6 : decode cL_proved 6 = .ok (.iload_n 3, 1) := by decide +kernel
theorem dL_proved_7 : decode cL_proved 7 = .ok (.invokevirtual 86, 3) := by decide +kernel
theorem dL_proved_15 : decode cL_proved 15 = .ok (.astore 5, 2) := by decide +kernel
theorem dL_proved_17 : decode cL_proved 17 = .ok (.iconst 1, 1) := by decide +kernel
theorem dL_proved_18 : decode cL_proved 18 = .ok (.ireturn, 1) := by decide +kernel
theorem dL_reach_0 : decode cL_reach 0 = .ok (.aload_n 3, 1) := by decide +kernel
theorem dL_reach_1 : decode cL_reach 1 = .ok (.iconst 0, 1) := by decide +kernel
theorem dL_reach_2 : decode cL_reach 2 = .ok (.aload_n 0, 1) := by decide +kernel
theorem dL_reach_3 : decode cL_reach 3 = .ok (.iload_n 1, 1) := by decide +kernel
theorem dL_reach_4 : decode cL_reach 4 = .ok (.iload_n 2, 1) := by decide +kernel
theorem dL_reach_5 : decode cL_reach 5 = .ok (.invokevirtual 80, 3) := by decide +kernel
theorem dL_reach_13 : decode cL_reach 13 = .ok (.astore 4, 2) := by decide +kernel
theorem dL_reach_15 : decode cL_reach 15 = .ok (.iconst 1, 1) := by decide +kernel
theorem dL_reach_16 : decode cL_reach 16 = .ok (.ireturn, 1) := by decide +kernel
theorem dL_reachAnew_0 : decode cL_reachAnew 0 = .ok (.aload_n 3, 1) := by decide +kernel
theorem dL_reachAnew_1 : decode cL_reachAnew 1 = .ok (.iconst 0, 1) := by decide +kernel
theorem dL_reachAnew_2 : decode cL_reachAnew 2 = .ok (.aload_n 0, 1) := by decide +kernel
theorem dL_reachAnew_3 : decode cL_reachAnew 3 = .ok (.iload_n 1, 1) := by decide +kernel
theorem dL_reachAnew_4 : decode cL_reachAnew 4 = .ok (.iload_n 2, 1) := by decide +kernel
theorem dL_reachAnew_5 : decode cL_reachAnew 5 = .ok (.invokevirtual 83, 3) := by decide +kernel
theorem dL_reachAnew_13 : decode cL_reachAnew 13 = .ok (.astore 4, 2) := by decide +kernel
theorem dL_reachAnew_15 : decode cL_reachAnew 15 = .ok (.iconst 1, 1) := by decide +kernel
theorem dL_reachAnew_16 : decode cL_reachAnew 16 = .ok (.ireturn, 1) := by decide +kernel
theorem dL_route_0 : decode cL_route 0 = .ok (.aload 5, 2) := by decide +kernel
theorem dL_route_2 : decode cL_route 2 = .ok (.iconst 0, 1) := by decide +kernel
theorem dL_route_3 : decode cL_route 3 = .ok (.aload_n 0, 1) := by decide +kernel
theorem dL_route_4 : decode cL_route 4 = .ok (.iload_n 1, 1) := by decide +kernel
theorem dL_route_5 : decode cL_route 5 = .ok (.iload_n 2, 1) := by decide +kernel
theorem dL_route_6 : decode cL_route 6 = .ok (.iload_n 3, 1) := by decide +kernel
theorem dL_route_7 : decode cL_route 7 = .ok (.iload 4, 2) := by decide +kernel
theorem dL_route_9 : decode cL_route 9 = .ok (.invokevirtual 44, 3) := by decide +kernel
theorem dL_route_17 : decode cL_route 17 = .ok (.astore 6, 2) := by decide +kernel
theorem dL_route_19 : decode cL_route 19 = .ok (.iconst 1, 1) := by decide +kernel
theorem dL_route_20 : decode cL_route 20 = .ok (.ireturn, 1) := by decide +kernel
theorem dL_rule_0 : decode cL_rule 0 = .ok (.aload 8, 2) := by decide +kernel
theorem dL_rule_2 : decode cL_rule 2 = .ok (.iconst 0, 1) := by decide +kernel
theorem dL_rule_3 : decode cL_rule 3 = .ok (.aload_n 0, 1) := by decide +kernel
theorem dL_rule_4 : decode cL_rule 4 = .ok (.iload_n 1, 1) := by decide +kernel
theorem dL_rule_5 : decode cL_rule 5 = .ok (.iload_n 2, 1) := by decide +kernel
theorem dL_rule_6 : decode cL_rule 6 = .ok (.iload_n 3, 1) := by decide +kernel
theorem dL_rule_7 : decode cL_rule 7 = .ok (.iload 4, 2) := by decide +kernel
theorem dL_rule_9 : decode cL_rule 9 = .ok (.iload 5, 2) := by decide +kernel
theorem dL_rule_11 : decode cL_rule 11 = .ok (.iload 6, 2) := by decide +kernel
theorem dL_rule_13 : decode cL_rule 13 = .ok (.iload 7, 2) := by decide +kernel
theorem dL_rule_15 : decode cL_rule 15 = .ok (.invokevirtual 48, 3) := by decide +kernel
theorem dL_rule_23 : decode cL_rule 23 = .ok (.astore 9, 2) := by decide +kernel
theorem dL_rule_25 : decode cL_rule 25 = .ok (.iconst 1, 1) := by decide +kernel
theorem dL_rule_26 : decode cL_rule 26 = .ok (.ireturn, 1) := by decide +kernel
theorem dL_sees_0 : decode cL_sees 0 = .ok (.aload_n 3, 1) := by decide +kernel
theorem dL_sees_1 : decode cL_sees 1 = .ok (.iconst 0, 1) := by decide +kernel
theorem dL_sees_2 : decode cL_sees 2 = .ok (.aload_n 0, 1) := by decide +kernel
theorem dL_sees_3 : decode cL_sees 3 = .ok (.iload_n 1, 1) := by decide +kernel
theorem dL_sees_4 : decode cL_sees 4 = .ok (.iload_n 2, 1) := by decide +kernel
theorem dL_sees_5 : decode cL_sees 5 = .ok (.invokevirtual 33, 3) := by decide +kernel
theorem dL_sees_20 : decode cL_sees 20 = .ok (.astore 4, 2) := by decide +kernel
theorem dL_sees_22 : decode cL_sees 22 = .ok (.iconst 1, 1) := by decide +kernel
theorem dL_sees_23 : decode cL_sees 23 = .ok (.ireturn, 1) := by decide +kernel
theorem dL_send_0 : decode cL_send 0 = .ok (.aload 4, 2) := by decide +kernel
theorem dL_send_2 : decode cL_send 2 = .ok (.iconst 0, 1) := by decide +kernel
theorem dL_send_3 : decode cL_send 3 = .ok (.aload_n 0, 1) := by decide +kernel
theorem dL_send_4 : decode cL_send 4 = .ok (.iload_n 1, 1) := by decide +kernel
theorem dL_send_5 : decode cL_send 5 = .ok (.iload_n 2, 1) := by decide +kernel
theorem dL_send_6 : decode cL_send 6 = .ok (.iload_n 3, 1) := by decide +kernel
theorem dL_send_7 : decode cL_send 7 = .ok (.invokevirtual 59, 3) := by decide +kernel
theorem dL_send_15 : decode cL_send 15 = .ok (.astore 5, 2) := by decide +kernel
theorem dL_send_17 : decode cL_send 17 = .ok (.iconst 1, 1) := by decide +kernel
theorem dL_send_18 : decode cL_send 18 = .ok (.ireturn, 1) := by decide +kernel
theorem dL_source_0 : decode cL_source 0 = .ok (.aload_n 2, 1) := by decide +kernel
theorem dL_source_1 : decode cL_source 1 = .ok (.iconst 0, 1) := by decide +kernel
theorem dL_source_2 : decode cL_source 2 = .ok (.aload_n 0, 1) := by decide +kernel
theorem dL_source_3 : decode cL_source 3 = .ok (.iload_n 1, 1) := by decide +kernel
theorem dL_source_4 : decode cL_source 4 = .ok (.invokevirtual 71, 3) := by decide +kernel
theorem dL_source_12 : decode cL_source 12 = .ok (.astore_n 3, 1) := by decide +kernel
theorem dL_source_13 : decode cL_source 13 = .ok (.iconst 1, 1) := by decide +kernel
theorem dL_source_14 : decode cL_source 14 = .ok (.ireturn, 1) := by decide +kernel
theorem dL_turn_0 : decode cL_turn 0 = .ok (.aload_n 2, 1) := by decide +kernel
theorem dL_turn_1 : decode cL_turn 1 = .ok (.iconst 0, 1) := by decide +kernel
theorem dL_turn_2 : decode cL_turn 2 = .ok (.aload_n 0, 1) := by decide +kernel
theorem dL_turn_3 : decode cL_turn 3 = .ok (.iload_n 1, 1) := by decide +kernel
theorem dL_turn_4 : decode cL_turn 4 = .ok (.invokevirtual 23, 3) := by decide +kernel
theorem dL_turn_19 : decode cL_turn 19 = .ok (.astore_n 3, 1) := by decide +kernel
theorem dL_turn_20 : decode cL_turn 20 = .ok (.iconst 1, 1) := by decide +kernel
theorem dL_turn_21 : decode cL_turn 21 = .ok (.ireturn, 1) := by decide +kernel
theorem dL_watch_0 : decode cL_watch 0 = .ok (.aload_n 3, 1) := by decide +kernel
theorem dL_watch_1 : decode cL_watch 1 = .ok (.iconst 0, 1) := by decide +kernel
theorem dL_watch_2 : decode cL_watch 2 = .ok (.aload_n 0, 1) := by decide +kernel
theorem dL_watch_3 : decode cL_watch 3 = .ok (.iload_n 1, 1) := by decide +kernel
theorem dL_watch_4 : decode cL_watch 4 = .ok (.iload_n 2, 1) := by decide +kernel
theorem dL_watch_5 : decode cL_watch 5 = .ok (.invokevirtual 52, 3) := by decide +kernel
theorem dL_watch_20 : decode cL_watch 20 = .ok (.astore 4, 2) := by decide +kernel
theorem dL_watch_22 : decode cL_watch 22 = .ok (.iconst 1, 1) := by decide +kernel
theorem dL_watch_23 : decode cL_watch 23 = .ok (.ireturn, 1) := by decide +kernel
theorem dL_way_0 : decode cL_way 0 = .ok (.aload 5, 2) := by decide +kernel
theorem dL_way_2 : decode cL_way 2 = .ok (.iconst 0, 1) := by decide +kernel
theorem dL_way_3 : decode cL_way 3 = .ok (.aload_n 0, 1) := by decide +kernel
theorem dL_way_4 : decode cL_way 4 = .ok (.iload_n 1, 1) := by decide +kernel
theorem dL_way_5 : decode cL_way 5 = .ok (.iload_n 2, 1) := by decide +kernel
theorem dL_way_6 : decode cL_way 6 = .ok (.iload_n 3, 1) := by decide +kernel
theorem dL_way_7 : decode cL_way 7 = .ok (.iload 4, 2) := by decide +kernel
theorem dL_way_9 : decode cL_way 9 = .ok (.invokevirtual 89, 3) := by decide +kernel
theorem dL_way_17 : decode cL_way 17 = .ok (.astore 6, 2) := by decide +kernel
theorem dL_way_19 : decode cL_way 19 = .ok (.iconst 1, 1) := by decide +kernel
theorem dL_way_20 : decode cL_way 20 = .ok (.ireturn, 1) := by decide +kernel
theorem dL_where_0 : decode cL_where 0 = .ok (.aload_n 2, 1) := by decide +kernel
theorem dL_where_1 : decode cL_where 1 = .ok (.iconst 0, 1) := by decide +kernel
theorem dL_where_2 : decode cL_where 2 = .ok (.aload_n 0, 1) := by decide +kernel
theorem dL_where_3 : decode cL_where 3 = .ok (.iload_n 1, 1) := by decide +kernel
theorem dL_where_4 : decode cL_where 4 = .ok (.invokevirtual 68, 3) := by decide +kernel
theorem dL_where_12 : decode cL_where 12 = .ok (.astore_n 3, 1) := by decide +kernel
theorem dL_where_13 : decode cL_where 13 = .ok (.iconst 1, 1) := by decide +kernel
theorem dL_where_14 : decode cL_where 14 = .ok (.ireturn, 1) := by decide +kernel
theorem u_606 : Cond.classLink RL 21 "java/lang/IndexOutOfBoundsException" ∈ gU := gm (i := 606) (by decide +kernel) (by decide +kernel)
theorem u_607 : Cond.methodLink RL 17 yX11_cable ∈ gU := gm (i := 607) (by decide +kernel) (by decide +kernel)
theorem u_608 : Cond.instanceMethod yX11_cable ∈ gU := gm (i := 608) (by decide +kernel) (by decide +kernel)
theorem u_609 : Cond.selects RX11 yX11_cable yX11_cable ∈ gU := gm (i := 609) (by decide +kernel) (by decide +kernel)
theorem u_610 : Cond.code yX11_cable cX11_cable 4 (some .int) ∈ gU := gm (i := 610) (by decide +kernel) (by decide +kernel)
theorem u_697 : Cond.methodLink RL 23 yX11_turn ∈ gU := gm (i := 697) (by decide +kernel) (by decide +kernel)
theorem u_698 : Cond.instanceMethod yX11_turn ∈ gU := gm (i := 698) (by decide +kernel) (by decide +kernel)
theorem u_699 : Cond.selects RX11 yX11_turn yX11_turn ∈ gU := gm (i := 699) (by decide +kernel) (by decide +kernel)
theorem u_700 : Cond.code yX11_turn cX11_turn 2 (some .boolean) ∈ gU := gm (i := 700) (by decide +kernel) (by decide +kernel)
theorem u_709 : Cond.methodLink RL 27 yX11_isBlocked ∈ gU := gm (i := 709) (by decide +kernel) (by decide +kernel)
theorem u_710 : Cond.instanceMethod yX11_isBlocked ∈ gU := gm (i := 710) (by decide +kernel) (by decide +kernel)
theorem u_711 : Cond.selects RX11 yX11_isBlocked yX11_isBlocked ∈ gU := gm (i := 711) (by decide +kernel) (by decide +kernel)
theorem u_712 : Cond.code yX11_isBlocked cX11_isBlocked 2 (some .boolean) ∈ gU := gm (i := 712) (by decide +kernel) (by decide +kernel)
theorem u_716 : Cond.methodLink RL 30 yX11_net ∈ gU := gm (i := 716) (by decide +kernel) (by decide +kernel)
theorem u_717 : Cond.instanceMethod yX11_net ∈ gU := gm (i := 717) (by decide +kernel) (by decide +kernel)
theorem u_718 : Cond.selects RX11 yX11_net yX11_net ∈ gU := gm (i := 718) (by decide +kernel) (by decide +kernel)
theorem u_719 : Cond.code yX11_net cX11_net 4 (some .int) ∈ gU := gm (i := 719) (by decide +kernel) (by decide +kernel)
theorem u_724 : Cond.methodLink RL 33 yX11_sees ∈ gU := gm (i := 724) (by decide +kernel) (by decide +kernel)
theorem u_725 : Cond.instanceMethod yX11_sees ∈ gU := gm (i := 725) (by decide +kernel) (by decide +kernel)
theorem u_726 : Cond.selects RX11 yX11_sees yX11_sees ∈ gU := gm (i := 726) (by decide +kernel) (by decide +kernel)
theorem u_727 : Cond.code yX11_sees cX11_sees 3 (some .boolean) ∈ gU := gm (i := 727) (by decide +kernel) (by decide +kernel)
theorem u_761 : Cond.methodLink RL 37 yX11_address ∈ gU := gm (i := 761) (by decide +kernel) (by decide +kernel)
theorem u_762 : Cond.instanceMethod yX11_address ∈ gU := gm (i := 762) (by decide +kernel) (by decide +kernel)
theorem u_763 : Cond.selects RX11 yX11_address yX11_address ∈ gU := gm (i := 763) (by decide +kernel) (by decide +kernel)
theorem u_764 : Cond.code yX11_address cX11_address 5 (some .int) ∈ gU := gm (i := 764) (by decide +kernel) (by decide +kernel)
theorem u_778 : Cond.methodLink RL 41 yX11_gateway ∈ gU := gm (i := 778) (by decide +kernel) (by decide +kernel)
theorem u_779 : Cond.instanceMethod yX11_gateway ∈ gU := gm (i := 779) (by decide +kernel) (by decide +kernel)
theorem u_780 : Cond.selects RX11 yX11_gateway yX11_gateway ∈ gU := gm (i := 780) (by decide +kernel) (by decide +kernel)
theorem u_781 : Cond.code yX11_gateway cX11_gateway 4 (some .int) ∈ gU := gm (i := 781) (by decide +kernel) (by decide +kernel)
theorem u_794 : Cond.methodLink RL 44 yX11_route ∈ gU := gm (i := 794) (by decide +kernel) (by decide +kernel)
theorem u_795 : Cond.instanceMethod yX11_route ∈ gU := gm (i := 795) (by decide +kernel) (by decide +kernel)
theorem u_796 : Cond.selects RX11 yX11_route yX11_route ∈ gU := gm (i := 796) (by decide +kernel) (by decide +kernel)
theorem u_797 : Cond.code yX11_route cX11_route 6 (some .int) ∈ gU := gm (i := 797) (by decide +kernel) (by decide +kernel)
theorem u_808 : Cond.methodLink RL 48 yX11_rule ∈ gU := gm (i := 808) (by decide +kernel) (by decide +kernel)
theorem u_809 : Cond.instanceMethod yX11_rule ∈ gU := gm (i := 809) (by decide +kernel) (by decide +kernel)
theorem u_810 : Cond.selects RX11 yX11_rule yX11_rule ∈ gU := gm (i := 810) (by decide +kernel) (by decide +kernel)
theorem u_811 : Cond.code yX11_rule cX11_rule 9 (some .int) ∈ gU := gm (i := 811) (by decide +kernel) (by decide +kernel)
theorem u_822 : Cond.methodLink RL 52 yX11_watch ∈ gU := gm (i := 822) (by decide +kernel) (by decide +kernel)
theorem u_823 : Cond.instanceMethod yX11_watch ∈ gU := gm (i := 823) (by decide +kernel) (by decide +kernel)
theorem u_824 : Cond.selects RX11 yX11_watch yX11_watch ∈ gU := gm (i := 824) (by decide +kernel) (by decide +kernel)
theorem u_825 : Cond.code yX11_watch cX11_watch 3 (some .boolean) ∈ gU := gm (i := 825) (by decide +kernel) (by decide +kernel)
theorem u_833 : Cond.methodLink RL 56 yX11_pool ∈ gU := gm (i := 833) (by decide +kernel) (by decide +kernel)
theorem u_834 : Cond.instanceMethod yX11_pool ∈ gU := gm (i := 834) (by decide +kernel) (by decide +kernel)
theorem u_835 : Cond.selects RX11 yX11_pool yX11_pool ∈ gU := gm (i := 835) (by decide +kernel) (by decide +kernel)
theorem u_836 : Cond.code yX11_pool cX11_pool 4 (some .int) ∈ gU := gm (i := 836) (by decide +kernel) (by decide +kernel)
theorem u_846 : Cond.methodLink RL 59 yX11_send ∈ gU := gm (i := 846) (by decide +kernel) (by decide +kernel)
theorem u_847 : Cond.instanceMethod yX11_send ∈ gU := gm (i := 847) (by decide +kernel) (by decide +kernel)
theorem u_848 : Cond.selects RX11 yX11_send yX11_send ∈ gU := gm (i := 848) (by decide +kernel) (by decide +kernel)
theorem u_849 : Cond.code yX11_send cX11_send 5 (some .int) ∈ gU := gm (i := 849) (by decide +kernel) (by decide +kernel)
theorem u_1048 : Cond.methodLink RL 65 yX11_fate ∈ gU := gm (i := 1048) (by decide +kernel) (by decide +kernel)
theorem u_1049 : Cond.instanceMethod yX11_fate ∈ gU := gm (i := 1049) (by decide +kernel) (by decide +kernel)
theorem u_1050 : Cond.selects RX11 yX11_fate yX11_fate ∈ gU := gm (i := 1050) (by decide +kernel) (by decide +kernel)
theorem u_1051 : Cond.code yX11_fate cX11_fate 2 (some .int) ∈ gU := gm (i := 1051) (by decide +kernel) (by decide +kernel)
theorem u_1060 : Cond.methodLink RL 68 yX11_where ∈ gU := gm (i := 1060) (by decide +kernel) (by decide +kernel)
theorem u_1061 : Cond.instanceMethod yX11_where ∈ gU := gm (i := 1061) (by decide +kernel) (by decide +kernel)
theorem u_1062 : Cond.selects RX11 yX11_where yX11_where ∈ gU := gm (i := 1062) (by decide +kernel) (by decide +kernel)
theorem u_1063 : Cond.code yX11_where cX11_where 2 (some .int) ∈ gU := gm (i := 1063) (by decide +kernel) (by decide +kernel)
theorem u_1067 : Cond.methodLink RL 71 yX11_source ∈ gU := gm (i := 1067) (by decide +kernel) (by decide +kernel)
theorem u_1068 : Cond.instanceMethod yX11_source ∈ gU := gm (i := 1068) (by decide +kernel) (by decide +kernel)
theorem u_1069 : Cond.selects RX11 yX11_source yX11_source ∈ gU := gm (i := 1069) (by decide +kernel) (by decide +kernel)
theorem u_1070 : Cond.code yX11_source cX11_source 2 (some .int) ∈ gU := gm (i := 1070) (by decide +kernel) (by decide +kernel)
theorem u_1074 : Cond.methodLink RL 74 yX11_noted ∈ gU := gm (i := 1074) (by decide +kernel) (by decide +kernel)
theorem u_1075 : Cond.instanceMethod yX11_noted ∈ gU := gm (i := 1075) (by decide +kernel) (by decide +kernel)
theorem u_1076 : Cond.selects RX11 yX11_noted yX11_noted ∈ gU := gm (i := 1076) (by decide +kernel) (by decide +kernel)
theorem u_1077 : Cond.code yX11_noted cX11_noted 3 (some .int) ∈ gU := gm (i := 1077) (by decide +kernel) (by decide +kernel)
theorem u_1082 : Cond.methodLink RL 77 yX11_learnt ∈ gU := gm (i := 1082) (by decide +kernel) (by decide +kernel)
theorem u_1083 : Cond.instanceMethod yX11_learnt ∈ gU := gm (i := 1083) (by decide +kernel) (by decide +kernel)
theorem u_1084 : Cond.selects RX11 yX11_learnt yX11_learnt ∈ gU := gm (i := 1084) (by decide +kernel) (by decide +kernel)
theorem u_1085 : Cond.code yX11_learnt cX11_learnt 4 (some .int) ∈ gU := gm (i := 1085) (by decide +kernel) (by decide +kernel)
theorem u_1094 : Cond.methodLink RL 80 yX11_reach ∈ gU := gm (i := 1094) (by decide +kernel) (by decide +kernel)
theorem u_1095 : Cond.instanceMethod yX11_reach ∈ gU := gm (i := 1095) (by decide +kernel) (by decide +kernel)
theorem u_1096 : Cond.selects RX11 yX11_reach yX11_reach ∈ gU := gm (i := 1096) (by decide +kernel) (by decide +kernel)
theorem u_1097 : Cond.code yX11_reach cX11_reach 3 (some .int) ∈ gU := gm (i := 1097) (by decide +kernel) (by decide +kernel)
theorem u_1204 : Cond.methodLink RL 83 yX11_reachAnew ∈ gU := gm (i := 1204) (by decide +kernel) (by decide +kernel)
theorem u_1205 : Cond.instanceMethod yX11_reachAnew ∈ gU := gm (i := 1205) (by decide +kernel) (by decide +kernel)
theorem u_1206 : Cond.selects RX11 yX11_reachAnew yX11_reachAnew ∈ gU := gm (i := 1206) (by decide +kernel) (by decide +kernel)
theorem u_1207 : Cond.code yX11_reachAnew cX11_reachAnew 3 (some .int) ∈ gU := gm (i := 1207) (by decide +kernel) (by decide +kernel)
theorem u_1227 : Cond.methodLink RL 86 yX11_proved ∈ gU := gm (i := 1227) (by decide +kernel) (by decide +kernel)
theorem u_1228 : Cond.instanceMethod yX11_proved ∈ gU := gm (i := 1228) (by decide +kernel) (by decide +kernel)
theorem u_1229 : Cond.selects RX11 yX11_proved yX11_proved ∈ gU := gm (i := 1229) (by decide +kernel) (by decide +kernel)
theorem u_1230 : Cond.code yX11_proved cX11_proved 4 (some .int) ∈ gU := gm (i := 1230) (by decide +kernel) (by decide +kernel)
theorem u_1235 : Cond.methodLink RL 89 yX11_way ∈ gU := gm (i := 1235) (by decide +kernel) (by decide +kernel)
theorem u_1236 : Cond.instanceMethod yX11_way ∈ gU := gm (i := 1236) (by decide +kernel) (by decide +kernel)
theorem u_1237 : Cond.selects RX11 yX11_way yX11_way ∈ gU := gm (i := 1237) (by decide +kernel) (by decide +kernel)
theorem u_1238 : Cond.code yX11_way cX11_way 5 (some .int) ∈ gU := gm (i := 1238) (by decide +kernel) (by decide +kernel)
set_option maxHeartbeats 4000000 in
set_option maxRecDepth 100000 in
theorem c_L_cable (l : Launch) (dC : Nat → ClassId) (dI : Nat → Nat → Nat) (sz : Nat) (hfl : l.stackTraces = false) (h0 : Nat) (ou : Nat) (w : Nat) (sg : Nat) (ro : Nat) (tr : Nat) (gX : Nat → Nat) (kd : Nat) (gW : Nat → Nat) (a0 : Int32) (a1 : Int32) : Met l yL_cable (Cond.codeWith yL_cable cL_cable 5 (some .int) [(0, 10, 13, 21), (0, 10, 17, 13), (0, 10, 21, 15)] :: gU) ({ frames := 8, cells := 1, slots := 6, locals := 126 }) (gPZ dC dI sz [(h0, .inr (11, oX w sg ro tr gX)), (w, .inr (10, oW kd gW 0 0))] [] (va_A [] sz) [.ref h0, .int a0, .int a1, .ref ou]) (va_Qi (fun (r : Int32) (_ : Unit) => r = 1) (fun _ _ => True) (va_A [] sz)) 1 6 (va_A [] sz) := by
  refine va_MetW (cc := cL_cable) (maxL := 5) (ret := (some .int)) (by decide) rfl ?_
  intro p e s m args below meth c s₁ B hml hv
  obtain ⟨rfl, hsz, hP, hK, hD0, hE, hZ⟩ := hv
  have hx := B.exec
  have hb := B.bytes
  have hr := B.returns
  have hts0 := atoms_spec (ws := Cond.codeWith yL_cable cL_cable 5 (some .int) [(0, 10, 13, 21), (0, 10, 17, 13), (0, 10, 21, 15)] :: gU) B.pre
  have hts : ∀ w ∈ gU, w.before _ s = true := fun w h => hts0 w (List.mem_cons_of_mem _ h)
  have hown : s.vm.findClass RL = some m.cls := findClass_of_methodNamed B.named
  have hlocks := B.notSynchronized
  have htab := vx_table (x := yL_cable) B (hts0 _ List.mem_cons_self)
  subst hsz
  have hD := hD0
  generalize hAe : va_A [] s.heap.size = A at hZ ⊢
  have hA : ∀ q : Nat, s.heap.size ≤ q → A q := fun q h => by rw [← hAe]; exact Or.inr h
  have hS : va_S A s.heap s.heap [] := va_S.rf
  have hP : va_P (dC, dI) vwCl [(h0, .inr (11, oX w sg ro tr gX)), (w, .inr (10, oW kd gW 0 0))] s.heap := hP
  have hl := lv_entry ([.ref h0, .int a0, .int a1, .ref ou]) (n := 5) (Nat.le_of_ble_eq_true rfl)
  rw [lg_entry_eq]
  generalize (lg_sl ([.ref h0, .int a0, .int a1, .ref ou]) ++ List.replicate (5 - (lg_sl ([.ref h0, .int a0, .int a1, .ref ou])).length) Slot.unset).toArray = ls at hl ⊢
  have hl : lv_has ls 5 [(0, .ref h0), (1, .int a0), (2, .int a1), (3, .ref ou)] := hl
  refine lv_aload_n hx hb dL_cable_0 rfl (lv_at hl 3 rfl) ?_
  refine lv_iconst (v := 0) hx hb dL_cable_1 (by decide) ?_
  refine lv_aload_n hx hb dL_cable_2 rfl (lv_at hl 0 rfl) ?_
  refine lv_iload_n hx hb dL_cable_3 rfl (lv_at hl 1 rfl) ?_
  refine lv_iload_n hx hb dL_cable_4 rfl (lv_at hl 2 rfl) ?_
  have hPc := hP.sub (ws' := [(h0, .inr (11, oX w sg ro tr gX)), (w, .inr (10, oW kd gW 0 0))]) [0, 1] rfl
  have hDc := hD.sub (ws' := [(h0, .inr (11, oX w sg ro tr gX)), (w, .inr (10, oW kd gW 0 0))]) [0, 1] (by decide) rfl
  have hKc := hK.sub (tys' := []) [] rfl
  have hFc := roF hS hA
  refine vx_calli (vx_runV (As := [.int a0, .int a1]) (rest := [.int 0, .ref ou]) ⟨hx, hb, hml, hown, hts⟩ (c_X11_cable l dC dI s.heap.size hfl h0 w sg ro tr gX kd gW a0 a1) (cwV 2 hts (gV u_607 u_608 u_609 u_1 u_610) rfl rfl rfl (by decide +kernel) ⟨Nat.le_of_ble_eq_true rfl, Nat.le_of_ble_eq_true rfl⟩) ⟨gPZ_blind, va_recv hKc hPc (ci := 11) (q0 := 0) rfl rfl, gPZ_call hPc hKc hDc hE hZ hS hFc⟩ rfl rfl hl.1 rfl (lv_room (Nat.le_of_ble_eq_true rfl)) dL_cable_5 ⟨(Nat.le_of_ble_eq_true rfl), (Nat.le_of_ble_eq_true rfl)⟩) hS (fun q _ h => hFc q h) hFc (fun q _ h => hFc q h) (fun E9 ce9 q78 u9 t9 H76 locs ht hvm hpx hBX hz1 hk1 hS hce hcv hcl => ?_) (fun r77 u9 t9 H76 locs ht hvm hw hB hz1 hk1 hS => hw.elim)
  subst hBX
  refine vx_widen (k := 1) (n := 6) (Nat.le_of_ble_eq_true rfl) (Nat.le_of_ble_eq_true rfl) ?_
  refine vx_catch (pc := 5) hown [] ⟨0, 10, 13, 21⟩ [⟨0, 10, 17, 13⟩, ⟨0, 10, 21, 15⟩] (by rw [htab]; rfl) (fun z hz => nomatch hz) (by decide) (by decide) (hts _ u_606) (va_Nw.use rfl (hE.1 _ n_8)) hce hcv hcl ?_
  have hP := roP hP hk1
  refine lv_astore (lv' := [(4, .ref q78), (0, .ref h0), (1, .int a0), (2, .int a1), (3, .ref ou)]) hx hb dL_cable_13 hl (by decide) rfl (fun ls hl => ?_)
  refine lv_iconst (v := 1) hx hb dL_cable_15 (by decide) ?_
  refine W.widen (k := 1) (n := 6) (Nat.le_of_ble_eq_true rfl) (Nat.le_of_ble_eq_true rfl) ?_
  exact W.iret (v := 1) hx hb hr (fun t ht hW => ⟨⟨1, (), rfl, rfl, trivial⟩, hS.F ht⟩) hS.2.2 dL_cable_16
set_option maxHeartbeats 4000000 in
set_option maxRecDepth 100000 in
theorem c_L_turn (l : Launch) (dC : Nat → ClassId) (dI : Nat → Nat → Nat) (sz : Nat) (hfl : l.stackTraces = false) (h0 : Nat) (ou : Nat) (w : Nat) (sg : Nat) (ro : Nat) (tr : Nat) (gX : Nat → Nat) (kd : Nat) (gW : Nat → Nat) (a0 : Int32) : Met l yL_turn (Cond.codeWith yL_turn cL_turn 4 (some .int) [(0, 16, 19, 21)] :: gU) ({ frames := 8, cells := 1, slots := 6, locals := 124 }) (gPZ dC dI sz [(h0, .inr (11, oX w sg ro tr gX)), (w, .inr (10, oW kd gW 0 0))] [] (va_A [] sz) [.ref h0, .int a0, .ref ou]) (va_Qi (fun (r : Int32) (_ : Unit) => r = 1) (fun _ _ => True) (va_A [] sz)) 1 6 (va_A [] sz) := by
  refine va_MetW (cc := cL_turn) (maxL := 4) (ret := (some .int)) (by decide) rfl ?_
  intro p e s m args below meth c s₁ B hml hv
  obtain ⟨rfl, hsz, hP, hK, hD0, hE, hZ⟩ := hv
  have hx := B.exec
  have hb := B.bytes
  have hr := B.returns
  have hts0 := atoms_spec (ws := Cond.codeWith yL_turn cL_turn 4 (some .int) [(0, 16, 19, 21)] :: gU) B.pre
  have hts : ∀ w ∈ gU, w.before _ s = true := fun w h => hts0 w (List.mem_cons_of_mem _ h)
  have hown : s.vm.findClass RL = some m.cls := findClass_of_methodNamed B.named
  have hlocks := B.notSynchronized
  have htab := vx_table (x := yL_turn) B (hts0 _ List.mem_cons_self)
  subst hsz
  have hD := hD0
  generalize hAe : va_A [] s.heap.size = A at hZ ⊢
  have hA : ∀ q : Nat, s.heap.size ≤ q → A q := fun q h => by rw [← hAe]; exact Or.inr h
  have hS : va_S A s.heap s.heap [] := va_S.rf
  have hP : va_P (dC, dI) vwCl [(h0, .inr (11, oX w sg ro tr gX)), (w, .inr (10, oW kd gW 0 0))] s.heap := hP
  have hl := lv_entry ([.ref h0, .int a0, .ref ou]) (n := 4) (Nat.le_of_ble_eq_true rfl)
  rw [lg_entry_eq]
  generalize (lg_sl ([.ref h0, .int a0, .ref ou]) ++ List.replicate (4 - (lg_sl ([.ref h0, .int a0, .ref ou])).length) Slot.unset).toArray = ls at hl ⊢
  have hl : lv_has ls 4 [(0, .ref h0), (1, .int a0), (2, .ref ou)] := hl
  refine lv_aload_n hx hb dL_turn_0 rfl (lv_at hl 2 rfl) ?_
  refine lv_iconst (v := 0) hx hb dL_turn_1 (by decide) ?_
  refine lv_aload_n hx hb dL_turn_2 rfl (lv_at hl 0 rfl) ?_
  refine lv_iload_n hx hb dL_turn_3 rfl (lv_at hl 1 rfl) ?_
  have hPc := hP.sub (ws' := [(h0, .inr (11, oX w sg ro tr gX)), (w, .inr (10, oW kd gW 0 0))]) [0, 1] rfl
  have hDc := hD.sub (ws' := [(h0, .inr (11, oX w sg ro tr gX)), (w, .inr (10, oW kd gW 0 0))]) [0, 1] (by decide) rfl
  have hKc := hK.sub (tys' := []) [] rfl
  have hFc := roF hS hA
  refine vx_calli (vx_runV (As := [.int a0]) (rest := [.int 0, .ref ou]) ⟨hx, hb, hml, hown, hts⟩ (c_X11_turn l dC dI s.heap.size hfl h0 w sg ro tr gX kd gW a0) (cwV 1 hts (gV u_697 u_698 u_699 u_1 u_700) rfl rfl rfl (by decide +kernel) ⟨Nat.le_of_ble_eq_true rfl, Nat.le_of_ble_eq_true rfl⟩) ⟨gPZ_blind, va_recv hKc hPc (ci := 11) (q0 := 0) rfl rfl, gPZ_call hPc hKc hDc hE hZ hS hFc⟩ rfl rfl hl.1 rfl (lv_room (Nat.le_of_ble_eq_true rfl)) dL_turn_4 ⟨(Nat.le_of_ble_eq_true rfl), (Nat.le_of_ble_eq_true rfl)⟩) hS (fun q _ h => hFc q h) hFc (fun q _ h => hFc q h) (fun E9 ce9 q81 u9 t9 H79 locs ht hvm hpx hBX hz1 hk1 hS hce hcv hcl => ?_) (fun r80 u9 t9 H79 locs ht hvm hw hB hz1 hk1 hS => hw.elim)
  subst hBX
  refine vx_widen (k := 1) (n := 6) (Nat.le_of_ble_eq_true rfl) (Nat.le_of_ble_eq_true rfl) ?_
  refine vx_catch (pc := 4) hown [] ⟨0, 16, 19, 21⟩ [] (by rw [htab]; rfl) (fun z hz => nomatch hz) (by decide) (by decide) (hts _ u_606) (va_Nw.use rfl (hE.1 _ n_8)) hce hcv hcl ?_
  have hP := roP hP hk1
  refine lv_astore_n (lv' := [(3, .ref q81), (0, .ref h0), (1, .int a0), (2, .ref ou)]) hx hb dL_turn_19 rfl hl (by decide) rfl (fun ls hl => ?_)
  refine lv_iconst (v := 1) hx hb dL_turn_20 (by decide) ?_
  refine W.widen (k := 1) (n := 6) (Nat.le_of_ble_eq_true rfl) (Nat.le_of_ble_eq_true rfl) ?_
  exact W.iret (v := 1) hx hb hr (fun t ht hW => ⟨⟨1, (), rfl, rfl, trivial⟩, hS.F ht⟩) hS.2.2 dL_turn_21
set_option maxHeartbeats 4000000 in
set_option maxRecDepth 100000 in
theorem c_L_isBlocked (l : Launch) (dC : Nat → ClassId) (dI : Nat → Nat → Nat) (sz : Nat) (hfl : l.stackTraces = false) (h0 : Nat) (ou : Nat) (w : Nat) (sg : Nat) (ro : Nat) (tr : Nat) (gX : Nat → Nat) (kd : Nat) (gW : Nat → Nat) (a0 : Int32) : Met l yL_isBlocked (Cond.codeWith yL_isBlocked cL_isBlocked 4 (some .int) [(0, 16, 19, 21)] :: gU) ({ frames := 8, cells := 1, slots := 6, locals := 124 }) (gPZ dC dI sz [(h0, .inr (11, oX w sg ro tr gX)), (w, .inr (10, oW kd gW 0 0))] [] (va_A [] sz) [.ref h0, .int a0, .ref ou]) (va_Qi (fun (r : Int32) (_ : Unit) => r = 1) (fun _ _ => True) (va_A [] sz)) 1 6 (va_A [] sz) := by
  refine va_MetW (cc := cL_isBlocked) (maxL := 4) (ret := (some .int)) (by decide) rfl ?_
  intro p e s m args below meth c s₁ B hml hv
  obtain ⟨rfl, hsz, hP, hK, hD0, hE, hZ⟩ := hv
  have hx := B.exec
  have hb := B.bytes
  have hr := B.returns
  have hts0 := atoms_spec (ws := Cond.codeWith yL_isBlocked cL_isBlocked 4 (some .int) [(0, 16, 19, 21)] :: gU) B.pre
  have hts : ∀ w ∈ gU, w.before _ s = true := fun w h => hts0 w (List.mem_cons_of_mem _ h)
  have hown : s.vm.findClass RL = some m.cls := findClass_of_methodNamed B.named
  have hlocks := B.notSynchronized
  have htab := vx_table (x := yL_isBlocked) B (hts0 _ List.mem_cons_self)
  subst hsz
  have hD := hD0
  generalize hAe : va_A [] s.heap.size = A at hZ ⊢
  have hA : ∀ q : Nat, s.heap.size ≤ q → A q := fun q h => by rw [← hAe]; exact Or.inr h
  have hS : va_S A s.heap s.heap [] := va_S.rf
  have hP : va_P (dC, dI) vwCl [(h0, .inr (11, oX w sg ro tr gX)), (w, .inr (10, oW kd gW 0 0))] s.heap := hP
  have hl := lv_entry ([.ref h0, .int a0, .ref ou]) (n := 4) (Nat.le_of_ble_eq_true rfl)
  rw [lg_entry_eq]
  generalize (lg_sl ([.ref h0, .int a0, .ref ou]) ++ List.replicate (4 - (lg_sl ([.ref h0, .int a0, .ref ou])).length) Slot.unset).toArray = ls at hl ⊢
  have hl : lv_has ls 4 [(0, .ref h0), (1, .int a0), (2, .ref ou)] := hl
  refine lv_aload_n hx hb dL_isBlocked_0 rfl (lv_at hl 2 rfl) ?_
  refine lv_iconst (v := 0) hx hb dL_isBlocked_1 (by decide) ?_
  refine lv_aload_n hx hb dL_isBlocked_2 rfl (lv_at hl 0 rfl) ?_
  refine lv_iload_n hx hb dL_isBlocked_3 rfl (lv_at hl 1 rfl) ?_
  have hPc := hP.sub (ws' := [(h0, .inr (11, oX w sg ro tr gX)), (w, .inr (10, oW kd gW 0 0))]) [0, 1] rfl
  have hDc := hD.sub (ws' := [(h0, .inr (11, oX w sg ro tr gX)), (w, .inr (10, oW kd gW 0 0))]) [0, 1] (by decide) rfl
  have hKc := hK.sub (tys' := []) [] rfl
  have hFc := roF hS hA
  refine vx_calli (vx_runV (As := [.int a0]) (rest := [.int 0, .ref ou]) ⟨hx, hb, hml, hown, hts⟩ (c_X11_isBlocked l dC dI s.heap.size hfl h0 w sg ro tr gX kd gW a0) (cwV 1 hts (gV u_709 u_710 u_711 u_1 u_712) rfl rfl rfl (by decide +kernel) ⟨Nat.le_of_ble_eq_true rfl, Nat.le_of_ble_eq_true rfl⟩) ⟨gPZ_blind, va_recv hKc hPc (ci := 11) (q0 := 0) rfl rfl, gPZ_call hPc hKc hDc hE hZ hS hFc⟩ rfl rfl hl.1 rfl (lv_room (Nat.le_of_ble_eq_true rfl)) dL_isBlocked_4 ⟨(Nat.le_of_ble_eq_true rfl), (Nat.le_of_ble_eq_true rfl)⟩) hS (fun q _ h => hFc q h) hFc (fun q _ h => hFc q h) (fun E9 ce9 q84 u9 t9 H82 locs ht hvm hpx hBX hz1 hk1 hS hce hcv hcl => ?_) (fun r83 u9 t9 H82 locs ht hvm hw hB hz1 hk1 hS => hw.elim)
  subst hBX
  refine vx_widen (k := 1) (n := 6) (Nat.le_of_ble_eq_true rfl) (Nat.le_of_ble_eq_true rfl) ?_
  refine vx_catch (pc := 4) hown [] ⟨0, 16, 19, 21⟩ [] (by rw [htab]; rfl) (fun z hz => nomatch hz) (by decide) (by decide) (hts _ u_606) (va_Nw.use rfl (hE.1 _ n_8)) hce hcv hcl ?_
  have hP := roP hP hk1
  refine lv_astore_n (lv' := [(3, .ref q84), (0, .ref h0), (1, .int a0), (2, .ref ou)]) hx hb dL_isBlocked_19 rfl hl (by decide) rfl (fun ls hl => ?_)
  refine lv_iconst (v := 1) hx hb dL_isBlocked_20 (by decide) ?_
  refine W.widen (k := 1) (n := 6) (Nat.le_of_ble_eq_true rfl) (Nat.le_of_ble_eq_true rfl) ?_
  exact W.iret (v := 1) hx hb hr (fun t ht hW => ⟨⟨1, (), rfl, rfl, trivial⟩, hS.F ht⟩) hS.2.2 dL_isBlocked_21
set_option maxHeartbeats 4000000 in
set_option maxRecDepth 100000 in
theorem c_L_net (l : Launch) (dC : Nat → ClassId) (dI : Nat → Nat → Nat) (sz : Nat) (hfl : l.stackTraces = false) (h0 : Nat) (ou : Nat) (w : Nat) (sg : Nat) (ro : Nat) (tr : Nat) (gX : Nat → Nat) (kd : Nat) (gW : Nat → Nat) (a0 : Int32) (a1 : Int32) : Met l yL_net (Cond.codeWith yL_net cL_net 5 (some .int) [(0, 10, 13, 21), (0, 10, 17, 13)] :: gU) ({ frames := 8, cells := 1, slots := 6, locals := 126 }) (gPZ dC dI sz [(h0, .inr (11, oX w sg ro tr gX)), (w, .inr (10, oW kd gW 0 0))] [] (va_A [] sz) [.ref h0, .int a0, .int a1, .ref ou]) (va_Qi (fun (r : Int32) (_ : Unit) => r = 1) (fun _ _ => True) (va_A [] sz)) 1 6 (va_A [] sz) := by
  refine va_MetW (cc := cL_net) (maxL := 5) (ret := (some .int)) (by decide) rfl ?_
  intro p e s m args below meth c s₁ B hml hv
  obtain ⟨rfl, hsz, hP, hK, hD0, hE, hZ⟩ := hv
  have hx := B.exec
  have hb := B.bytes
  have hr := B.returns
  have hts0 := atoms_spec (ws := Cond.codeWith yL_net cL_net 5 (some .int) [(0, 10, 13, 21), (0, 10, 17, 13)] :: gU) B.pre
  have hts : ∀ w ∈ gU, w.before _ s = true := fun w h => hts0 w (List.mem_cons_of_mem _ h)
  have hown : s.vm.findClass RL = some m.cls := findClass_of_methodNamed B.named
  have hlocks := B.notSynchronized
  have htab := vx_table (x := yL_net) B (hts0 _ List.mem_cons_self)
  subst hsz
  have hD := hD0
  generalize hAe : va_A [] s.heap.size = A at hZ ⊢
  have hA : ∀ q : Nat, s.heap.size ≤ q → A q := fun q h => by rw [← hAe]; exact Or.inr h
  have hS : va_S A s.heap s.heap [] := va_S.rf
  have hP : va_P (dC, dI) vwCl [(h0, .inr (11, oX w sg ro tr gX)), (w, .inr (10, oW kd gW 0 0))] s.heap := hP
  have hl := lv_entry ([.ref h0, .int a0, .int a1, .ref ou]) (n := 5) (Nat.le_of_ble_eq_true rfl)
  rw [lg_entry_eq]
  generalize (lg_sl ([.ref h0, .int a0, .int a1, .ref ou]) ++ List.replicate (5 - (lg_sl ([.ref h0, .int a0, .int a1, .ref ou])).length) Slot.unset).toArray = ls at hl ⊢
  have hl : lv_has ls 5 [(0, .ref h0), (1, .int a0), (2, .int a1), (3, .ref ou)] := hl
  refine lv_aload_n hx hb dL_net_0 rfl (lv_at hl 3 rfl) ?_
  refine lv_iconst (v := 0) hx hb dL_net_1 (by decide) ?_
  refine lv_aload_n hx hb dL_net_2 rfl (lv_at hl 0 rfl) ?_
  refine lv_iload_n hx hb dL_net_3 rfl (lv_at hl 1 rfl) ?_
  refine lv_iload_n hx hb dL_net_4 rfl (lv_at hl 2 rfl) ?_
  have hPc := hP.sub (ws' := [(h0, .inr (11, oX w sg ro tr gX)), (w, .inr (10, oW kd gW 0 0))]) [0, 1] rfl
  have hDc := hD.sub (ws' := [(h0, .inr (11, oX w sg ro tr gX)), (w, .inr (10, oW kd gW 0 0))]) [0, 1] (by decide) rfl
  have hKc := hK.sub (tys' := []) [] rfl
  have hFc := roF hS hA
  refine vx_calli (vx_runV (As := [.int a0, .int a1]) (rest := [.int 0, .ref ou]) ⟨hx, hb, hml, hown, hts⟩ (c_X11_net l dC dI s.heap.size hfl h0 w sg ro tr gX kd gW a0 a1) (cwV 2 hts (gV u_716 u_717 u_718 u_1 u_719) rfl rfl rfl (by decide +kernel) ⟨Nat.le_of_ble_eq_true rfl, Nat.le_of_ble_eq_true rfl⟩) ⟨gPZ_blind, va_recv hKc hPc (ci := 11) (q0 := 0) rfl rfl, gPZ_call hPc hKc hDc hE hZ hS hFc⟩ rfl rfl hl.1 rfl (lv_room (Nat.le_of_ble_eq_true rfl)) dL_net_5 ⟨(Nat.le_of_ble_eq_true rfl), (Nat.le_of_ble_eq_true rfl)⟩) hS (fun q _ h => hFc q h) hFc (fun q _ h => hFc q h) (fun E9 ce9 q87 u9 t9 H85 locs ht hvm hpx hBX hz1 hk1 hS hce hcv hcl => ?_) (fun r86 u9 t9 H85 locs ht hvm hw hB hz1 hk1 hS => hw.elim)
  subst hBX
  refine vx_widen (k := 1) (n := 6) (Nat.le_of_ble_eq_true rfl) (Nat.le_of_ble_eq_true rfl) ?_
  refine vx_catch (pc := 5) hown [] ⟨0, 10, 13, 21⟩ [⟨0, 10, 17, 13⟩] (by rw [htab]; rfl) (fun z hz => nomatch hz) (by decide) (by decide) (hts _ u_606) (va_Nw.use rfl (hE.1 _ n_8)) hce hcv hcl ?_
  have hP := roP hP hk1
  refine lv_astore (lv' := [(4, .ref q87), (0, .ref h0), (1, .int a0), (2, .int a1), (3, .ref ou)]) hx hb dL_net_13 hl (by decide) rfl (fun ls hl => ?_)
  refine lv_iconst (v := 1) hx hb dL_net_15 (by decide) ?_
  refine W.widen (k := 1) (n := 6) (Nat.le_of_ble_eq_true rfl) (Nat.le_of_ble_eq_true rfl) ?_
  exact W.iret (v := 1) hx hb hr (fun t ht hW => ⟨⟨1, (), rfl, rfl, trivial⟩, hS.F ht⟩) hS.2.2 dL_net_16
set_option maxHeartbeats 4000000 in
set_option maxRecDepth 100000 in
theorem c_L_sees (l : Launch) (dC : Nat → ClassId) (dI : Nat → Nat → Nat) (sz : Nat) (hfl : l.stackTraces = false) (h0 : Nat) (ou : Nat) (w : Nat) (sg : Nat) (ro : Nat) (tr : Nat) (gX : Nat → Nat) (kd : Nat) (gW : Nat → Nat) (a0 : Int32) (a1 : Int32) : Met l yL_sees (Cond.codeWith yL_sees cL_sees 5 (some .int) [(0, 17, 20, 21), (0, 17, 24, 13)] :: gU) ({ frames := 8, cells := 1, slots := 6, locals := 125 }) (gPZ dC dI sz [(h0, .inr (11, oX w sg ro tr gX)), (w, .inr (10, oW kd gW 0 0))] [] (va_A [] sz) [.ref h0, .int a0, .int a1, .ref ou]) (va_Qi (fun (r : Int32) (_ : Unit) => r = 1) (fun _ _ => True) (va_A [] sz)) 1 6 (va_A [] sz) := by
  refine va_MetW (cc := cL_sees) (maxL := 5) (ret := (some .int)) (by decide) rfl ?_
  intro p e s m args below meth c s₁ B hml hv
  obtain ⟨rfl, hsz, hP, hK, hD0, hE, hZ⟩ := hv
  have hx := B.exec
  have hb := B.bytes
  have hr := B.returns
  have hts0 := atoms_spec (ws := Cond.codeWith yL_sees cL_sees 5 (some .int) [(0, 17, 20, 21), (0, 17, 24, 13)] :: gU) B.pre
  have hts : ∀ w ∈ gU, w.before _ s = true := fun w h => hts0 w (List.mem_cons_of_mem _ h)
  have hown : s.vm.findClass RL = some m.cls := findClass_of_methodNamed B.named
  have hlocks := B.notSynchronized
  have htab := vx_table (x := yL_sees) B (hts0 _ List.mem_cons_self)
  subst hsz
  have hD := hD0
  generalize hAe : va_A [] s.heap.size = A at hZ ⊢
  have hA : ∀ q : Nat, s.heap.size ≤ q → A q := fun q h => by rw [← hAe]; exact Or.inr h
  have hS : va_S A s.heap s.heap [] := va_S.rf
  have hP : va_P (dC, dI) vwCl [(h0, .inr (11, oX w sg ro tr gX)), (w, .inr (10, oW kd gW 0 0))] s.heap := hP
  have hl := lv_entry ([.ref h0, .int a0, .int a1, .ref ou]) (n := 5) (Nat.le_of_ble_eq_true rfl)
  rw [lg_entry_eq]
  generalize (lg_sl ([.ref h0, .int a0, .int a1, .ref ou]) ++ List.replicate (5 - (lg_sl ([.ref h0, .int a0, .int a1, .ref ou])).length) Slot.unset).toArray = ls at hl ⊢
  have hl : lv_has ls 5 [(0, .ref h0), (1, .int a0), (2, .int a1), (3, .ref ou)] := hl
  refine lv_aload_n hx hb dL_sees_0 rfl (lv_at hl 3 rfl) ?_
  refine lv_iconst (v := 0) hx hb dL_sees_1 (by decide) ?_
  refine lv_aload_n hx hb dL_sees_2 rfl (lv_at hl 0 rfl) ?_
  refine lv_iload_n hx hb dL_sees_3 rfl (lv_at hl 1 rfl) ?_
  refine lv_iload_n hx hb dL_sees_4 rfl (lv_at hl 2 rfl) ?_
  have hPc := hP.sub (ws' := [(h0, .inr (11, oX w sg ro tr gX)), (w, .inr (10, oW kd gW 0 0))]) [0, 1] rfl
  have hDc := hD.sub (ws' := [(h0, .inr (11, oX w sg ro tr gX)), (w, .inr (10, oW kd gW 0 0))]) [0, 1] (by decide) rfl
  have hKc := hK.sub (tys' := []) [] rfl
  have hFc := roF hS hA
  refine vx_calli (vx_runV (As := [.int a0, .int a1]) (rest := [.int 0, .ref ou]) ⟨hx, hb, hml, hown, hts⟩ (c_X11_sees l dC dI s.heap.size hfl h0 w sg ro tr gX kd gW a0 a1) (cwV 2 hts (gV u_724 u_725 u_726 u_1 u_727) rfl rfl rfl (by decide +kernel) ⟨Nat.le_of_ble_eq_true rfl, Nat.le_of_ble_eq_true rfl⟩) ⟨gPZ_blind, va_recv hKc hPc (ci := 11) (q0 := 0) rfl rfl, gPZ_call hPc hKc hDc hE hZ hS hFc⟩ rfl rfl hl.1 rfl (lv_room (Nat.le_of_ble_eq_true rfl)) dL_sees_5 ⟨(Nat.le_of_ble_eq_true rfl), (Nat.le_of_ble_eq_true rfl)⟩) hS (fun q _ h => hFc q h) hFc (fun q _ h => hFc q h) (fun E9 ce9 q90 u9 t9 H88 locs ht hvm hpx hBX hz1 hk1 hS hce hcv hcl => ?_) (fun r89 u9 t9 H88 locs ht hvm hw hB hz1 hk1 hS => hw.elim)
  subst hBX
  refine vx_widen (k := 1) (n := 6) (Nat.le_of_ble_eq_true rfl) (Nat.le_of_ble_eq_true rfl) ?_
  refine vx_catch (pc := 5) hown [] ⟨0, 17, 20, 21⟩ [⟨0, 17, 24, 13⟩] (by rw [htab]; rfl) (fun z hz => nomatch hz) (by decide) (by decide) (hts _ u_606) (va_Nw.use rfl (hE.1 _ n_8)) hce hcv hcl ?_
  have hP := roP hP hk1
  refine lv_astore (lv' := [(4, .ref q90), (0, .ref h0), (1, .int a0), (2, .int a1), (3, .ref ou)]) hx hb dL_sees_20 hl (by decide) rfl (fun ls hl => ?_)
  refine lv_iconst (v := 1) hx hb dL_sees_22 (by decide) ?_
  refine W.widen (k := 1) (n := 6) (Nat.le_of_ble_eq_true rfl) (Nat.le_of_ble_eq_true rfl) ?_
  exact W.iret (v := 1) hx hb hr (fun t ht hW => ⟨⟨1, (), rfl, rfl, trivial⟩, hS.F ht⟩) hS.2.2 dL_sees_23
set_option maxHeartbeats 4000000 in
set_option maxRecDepth 100000 in
theorem c_L_address (l : Launch) (dC : Nat → ClassId) (dI : Nat → Nat → Nat) (sz : Nat) (hfl : l.stackTraces = false) (h0 : Nat) (ou : Nat) (w : Nat) (sg : Nat) (ro : Nat) (tr : Nat) (gX : Nat → Nat) (kd : Nat) (gW : Nat → Nat) (a0 : Int32) (a1 : Int32) (a2 : Int32) : Met l yL_address (Cond.codeWith yL_address cL_address 6 (some .int) [(0, 12, 15, 21), (0, 12, 19, 13)] :: gU) ({ frames := 8, cells := 1, slots := 6, locals := 127 }) (gPZ dC dI sz [(h0, .inr (11, oX w sg ro tr gX)), (w, .inr (10, oW kd gW 0 0))] [] (va_A [] sz) [.ref h0, .int a0, .int a1, .int a2, .ref ou]) (va_Qi (fun (r : Int32) (_ : Unit) => r = 1) (fun _ _ => True) (va_A [] sz)) 1 6 (va_A [] sz) := by
  refine va_MetW (cc := cL_address) (maxL := 6) (ret := (some .int)) (by decide) rfl ?_
  intro p e s m args below meth c s₁ B hml hv
  obtain ⟨rfl, hsz, hP, hK, hD0, hE, hZ⟩ := hv
  have hx := B.exec
  have hb := B.bytes
  have hr := B.returns
  have hts0 := atoms_spec (ws := Cond.codeWith yL_address cL_address 6 (some .int) [(0, 12, 15, 21), (0, 12, 19, 13)] :: gU) B.pre
  have hts : ∀ w ∈ gU, w.before _ s = true := fun w h => hts0 w (List.mem_cons_of_mem _ h)
  have hown : s.vm.findClass RL = some m.cls := findClass_of_methodNamed B.named
  have hlocks := B.notSynchronized
  have htab := vx_table (x := yL_address) B (hts0 _ List.mem_cons_self)
  subst hsz
  have hD := hD0
  generalize hAe : va_A [] s.heap.size = A at hZ ⊢
  have hA : ∀ q : Nat, s.heap.size ≤ q → A q := fun q h => by rw [← hAe]; exact Or.inr h
  have hS : va_S A s.heap s.heap [] := va_S.rf
  have hP : va_P (dC, dI) vwCl [(h0, .inr (11, oX w sg ro tr gX)), (w, .inr (10, oW kd gW 0 0))] s.heap := hP
  have hl := lv_entry ([.ref h0, .int a0, .int a1, .int a2, .ref ou]) (n := 6) (Nat.le_of_ble_eq_true rfl)
  rw [lg_entry_eq]
  generalize (lg_sl ([.ref h0, .int a0, .int a1, .int a2, .ref ou]) ++ List.replicate (6 - (lg_sl ([.ref h0, .int a0, .int a1, .int a2, .ref ou])).length) Slot.unset).toArray = ls at hl ⊢
  have hl : lv_has ls 6 [(0, .ref h0), (1, .int a0), (2, .int a1), (3, .int a2), (4, .ref ou)] := hl
  refine lv_aload hx hb dL_address_0 (lv_at hl 4 rfl) ?_
  refine lv_iconst (v := 0) hx hb dL_address_2 (by decide) ?_
  refine lv_aload_n hx hb dL_address_3 rfl (lv_at hl 0 rfl) ?_
  refine lv_iload_n hx hb dL_address_4 rfl (lv_at hl 1 rfl) ?_
  refine lv_iload_n hx hb dL_address_5 rfl (lv_at hl 2 rfl) ?_
  refine lv_iload_n hx hb dL_address_6 rfl (lv_at hl 3 rfl) ?_
  have hPc := hP.sub (ws' := [(h0, .inr (11, oX w sg ro tr gX)), (w, .inr (10, oW kd gW 0 0))]) [0, 1] rfl
  have hDc := hD.sub (ws' := [(h0, .inr (11, oX w sg ro tr gX)), (w, .inr (10, oW kd gW 0 0))]) [0, 1] (by decide) rfl
  have hKc := hK.sub (tys' := []) [] rfl
  have hFc := roF hS hA
  refine vx_calli (vx_runV (As := [.int a0, .int a1, .int a2]) (rest := [.int 0, .ref ou]) ⟨hx, hb, hml, hown, hts⟩ (c_X11_address l dC dI s.heap.size hfl h0 w sg ro tr gX kd gW a0 a1 a2) (cwV 3 hts (gV u_761 u_762 u_763 u_1 u_764) rfl rfl rfl (by decide +kernel) ⟨Nat.le_of_ble_eq_true rfl, Nat.le_of_ble_eq_true rfl⟩) ⟨gPZ_blind, va_recv hKc hPc (ci := 11) (q0 := 0) rfl rfl, gPZ_call hPc hKc hDc hE hZ hS hFc⟩ rfl rfl hl.1 rfl (lv_room (Nat.le_of_ble_eq_true rfl)) dL_address_7 ⟨(Nat.le_of_ble_eq_true rfl), (Nat.le_of_ble_eq_true rfl)⟩) hS (fun q _ h => hFc q h) hFc (fun q _ h => hFc q h) (fun E9 ce9 q93 u9 t9 H91 locs ht hvm hpx hBX hz1 hk1 hS hce hcv hcl => ?_) (fun r92 u9 t9 H91 locs ht hvm hw hB hz1 hk1 hS => hw.elim)
  subst hBX
  refine vx_widen (k := 1) (n := 6) (Nat.le_of_ble_eq_true rfl) (Nat.le_of_ble_eq_true rfl) ?_
  refine vx_catch (pc := 7) hown [] ⟨0, 12, 15, 21⟩ [⟨0, 12, 19, 13⟩] (by rw [htab]; rfl) (fun z hz => nomatch hz) (by decide) (by decide) (hts _ u_606) (va_Nw.use rfl (hE.1 _ n_8)) hce hcv hcl ?_
  have hP := roP hP hk1
  refine lv_astore (lv' := [(5, .ref q93), (0, .ref h0), (1, .int a0), (2, .int a1), (3, .int a2), (4, .ref ou)]) hx hb dL_address_15 hl (by decide) rfl (fun ls hl => ?_)
  refine lv_iconst (v := 1) hx hb dL_address_17 (by decide) ?_
  refine W.widen (k := 1) (n := 6) (Nat.le_of_ble_eq_true rfl) (Nat.le_of_ble_eq_true rfl) ?_
  exact W.iret (v := 1) hx hb hr (fun t ht hW => ⟨⟨1, (), rfl, rfl, trivial⟩, hS.F ht⟩) hS.2.2 dL_address_18
set_option maxHeartbeats 4000000 in
set_option maxRecDepth 100000 in
theorem c_L_gateway (l : Launch) (dC : Nat → ClassId) (dI : Nat → Nat → Nat) (sz : Nat) (hfl : l.stackTraces = false) (h0 : Nat) (ou : Nat) (w : Nat) (sg : Nat) (ro : Nat) (tr : Nat) (gX : Nat → Nat) (kd : Nat) (gW : Nat → Nat) (a0 : Int32) (a1 : Int32) : Met l yL_gateway (Cond.codeWith yL_gateway cL_gateway 5 (some .int) [(0, 10, 13, 21), (0, 10, 17, 13)] :: gU) ({ frames := 8, cells := 1, slots := 6, locals := 126 }) (gPZ dC dI sz [(h0, .inr (11, oX w sg ro tr gX)), (w, .inr (10, oW kd gW 0 0))] [] (va_A [] sz) [.ref h0, .int a0, .int a1, .ref ou]) (va_Qi (fun (r : Int32) (_ : Unit) => r = 1) (fun _ _ => True) (va_A [] sz)) 1 6 (va_A [] sz) := by
  refine va_MetW (cc := cL_gateway) (maxL := 5) (ret := (some .int)) (by decide) rfl ?_
  intro p e s m args below meth c s₁ B hml hv
  obtain ⟨rfl, hsz, hP, hK, hD0, hE, hZ⟩ := hv
  have hx := B.exec
  have hb := B.bytes
  have hr := B.returns
  have hts0 := atoms_spec (ws := Cond.codeWith yL_gateway cL_gateway 5 (some .int) [(0, 10, 13, 21), (0, 10, 17, 13)] :: gU) B.pre
  have hts : ∀ w ∈ gU, w.before _ s = true := fun w h => hts0 w (List.mem_cons_of_mem _ h)
  have hown : s.vm.findClass RL = some m.cls := findClass_of_methodNamed B.named
  have hlocks := B.notSynchronized
  have htab := vx_table (x := yL_gateway) B (hts0 _ List.mem_cons_self)
  subst hsz
  have hD := hD0
  generalize hAe : va_A [] s.heap.size = A at hZ ⊢
  have hA : ∀ q : Nat, s.heap.size ≤ q → A q := fun q h => by rw [← hAe]; exact Or.inr h
  have hS : va_S A s.heap s.heap [] := va_S.rf
  have hP : va_P (dC, dI) vwCl [(h0, .inr (11, oX w sg ro tr gX)), (w, .inr (10, oW kd gW 0 0))] s.heap := hP
  have hl := lv_entry ([.ref h0, .int a0, .int a1, .ref ou]) (n := 5) (Nat.le_of_ble_eq_true rfl)
  rw [lg_entry_eq]
  generalize (lg_sl ([.ref h0, .int a0, .int a1, .ref ou]) ++ List.replicate (5 - (lg_sl ([.ref h0, .int a0, .int a1, .ref ou])).length) Slot.unset).toArray = ls at hl ⊢
  have hl : lv_has ls 5 [(0, .ref h0), (1, .int a0), (2, .int a1), (3, .ref ou)] := hl
  refine lv_aload_n hx hb dL_gateway_0 rfl (lv_at hl 3 rfl) ?_
  refine lv_iconst (v := 0) hx hb dL_gateway_1 (by decide) ?_
  refine lv_aload_n hx hb dL_gateway_2 rfl (lv_at hl 0 rfl) ?_
  refine lv_iload_n hx hb dL_gateway_3 rfl (lv_at hl 1 rfl) ?_
  refine lv_iload_n hx hb dL_gateway_4 rfl (lv_at hl 2 rfl) ?_
  have hPc := hP.sub (ws' := [(h0, .inr (11, oX w sg ro tr gX)), (w, .inr (10, oW kd gW 0 0))]) [0, 1] rfl
  have hDc := hD.sub (ws' := [(h0, .inr (11, oX w sg ro tr gX)), (w, .inr (10, oW kd gW 0 0))]) [0, 1] (by decide) rfl
  have hKc := hK.sub (tys' := []) [] rfl
  have hFc := roF hS hA
  refine vx_calli (vx_runV (As := [.int a0, .int a1]) (rest := [.int 0, .ref ou]) ⟨hx, hb, hml, hown, hts⟩ (c_X11_gateway l dC dI s.heap.size hfl h0 w sg ro tr gX kd gW a0 a1) (cwV 2 hts (gV u_778 u_779 u_780 u_1 u_781) rfl rfl rfl (by decide +kernel) ⟨Nat.le_of_ble_eq_true rfl, Nat.le_of_ble_eq_true rfl⟩) ⟨gPZ_blind, va_recv hKc hPc (ci := 11) (q0 := 0) rfl rfl, gPZ_call hPc hKc hDc hE hZ hS hFc⟩ rfl rfl hl.1 rfl (lv_room (Nat.le_of_ble_eq_true rfl)) dL_gateway_5 ⟨(Nat.le_of_ble_eq_true rfl), (Nat.le_of_ble_eq_true rfl)⟩) hS (fun q _ h => hFc q h) hFc (fun q _ h => hFc q h) (fun E9 ce9 q96 u9 t9 H94 locs ht hvm hpx hBX hz1 hk1 hS hce hcv hcl => ?_) (fun r95 u9 t9 H94 locs ht hvm hw hB hz1 hk1 hS => hw.elim)
  subst hBX
  refine vx_widen (k := 1) (n := 6) (Nat.le_of_ble_eq_true rfl) (Nat.le_of_ble_eq_true rfl) ?_
  refine vx_catch (pc := 5) hown [] ⟨0, 10, 13, 21⟩ [⟨0, 10, 17, 13⟩] (by rw [htab]; rfl) (fun z hz => nomatch hz) (by decide) (by decide) (hts _ u_606) (va_Nw.use rfl (hE.1 _ n_8)) hce hcv hcl ?_
  have hP := roP hP hk1
  refine lv_astore (lv' := [(4, .ref q96), (0, .ref h0), (1, .int a0), (2, .int a1), (3, .ref ou)]) hx hb dL_gateway_13 hl (by decide) rfl (fun ls hl => ?_)
  refine lv_iconst (v := 1) hx hb dL_gateway_15 (by decide) ?_
  refine W.widen (k := 1) (n := 6) (Nat.le_of_ble_eq_true rfl) (Nat.le_of_ble_eq_true rfl) ?_
  exact W.iret (v := 1) hx hb hr (fun t ht hW => ⟨⟨1, (), rfl, rfl, trivial⟩, hS.F ht⟩) hS.2.2 dL_gateway_16
set_option maxHeartbeats 4000000 in
set_option maxRecDepth 100000 in
theorem c_L_route (l : Launch) (dC : Nat → ClassId) (dI : Nat → Nat → Nat) (sz : Nat) (hfl : l.stackTraces = false) (h0 : Nat) (ou : Nat) (w : Nat) (sg : Nat) (ro : Nat) (tr : Nat) (gX : Nat → Nat) (kd : Nat) (gW : Nat → Nat) (a0 : Int32) (a1 : Int32) (a2 : Int32) (a3 : Int32) : Met l yL_route (Cond.codeWith yL_route cL_route 7 (some .int) [(0, 14, 17, 21), (0, 14, 21, 13), (0, 14, 25, 15)] :: gU) ({ frames := 8, cells := 1, slots := 6, locals := 128 }) (gPZ dC dI sz [(h0, .inr (11, oX w sg ro tr gX)), (w, .inr (10, oW kd gW 0 0))] [] (va_A [] sz) [.ref h0, .int a0, .int a1, .int a2, .int a3, .ref ou]) (va_Qi (fun (r : Int32) (_ : Unit) => r = 1) (fun _ _ => True) (va_A [] sz)) 1 6 (va_A [] sz) := by
  refine va_MetW (cc := cL_route) (maxL := 7) (ret := (some .int)) (by decide) rfl ?_
  intro p e s m args below meth c s₁ B hml hv
  obtain ⟨rfl, hsz, hP, hK, hD0, hE, hZ⟩ := hv
  have hx := B.exec
  have hb := B.bytes
  have hr := B.returns
  have hts0 := atoms_spec (ws := Cond.codeWith yL_route cL_route 7 (some .int) [(0, 14, 17, 21), (0, 14, 21, 13), (0, 14, 25, 15)] :: gU) B.pre
  have hts : ∀ w ∈ gU, w.before _ s = true := fun w h => hts0 w (List.mem_cons_of_mem _ h)
  have hown : s.vm.findClass RL = some m.cls := findClass_of_methodNamed B.named
  have hlocks := B.notSynchronized
  have htab := vx_table (x := yL_route) B (hts0 _ List.mem_cons_self)
  subst hsz
  have hD := hD0
  generalize hAe : va_A [] s.heap.size = A at hZ ⊢
  have hA : ∀ q : Nat, s.heap.size ≤ q → A q := fun q h => by rw [← hAe]; exact Or.inr h
  have hS : va_S A s.heap s.heap [] := va_S.rf
  have hP : va_P (dC, dI) vwCl [(h0, .inr (11, oX w sg ro tr gX)), (w, .inr (10, oW kd gW 0 0))] s.heap := hP
  have hl := lv_entry ([.ref h0, .int a0, .int a1, .int a2, .int a3, .ref ou]) (n := 7) (Nat.le_of_ble_eq_true rfl)
  rw [lg_entry_eq]
  generalize (lg_sl ([.ref h0, .int a0, .int a1, .int a2, .int a3, .ref ou]) ++ List.replicate (7 - (lg_sl ([.ref h0, .int a0, .int a1, .int a2, .int a3, .ref ou])).length) Slot.unset).toArray = ls at hl ⊢
  have hl : lv_has ls 7 [(0, .ref h0), (1, .int a0), (2, .int a1), (3, .int a2), (4, .int a3), (5, .ref ou)] := hl
  refine lv_aload hx hb dL_route_0 (lv_at hl 5 rfl) ?_
  refine lv_iconst (v := 0) hx hb dL_route_2 (by decide) ?_
  refine lv_aload_n hx hb dL_route_3 rfl (lv_at hl 0 rfl) ?_
  refine lv_iload_n hx hb dL_route_4 rfl (lv_at hl 1 rfl) ?_
  refine lv_iload_n hx hb dL_route_5 rfl (lv_at hl 2 rfl) ?_
  refine lv_iload_n hx hb dL_route_6 rfl (lv_at hl 3 rfl) ?_
  refine lv_iload hx hb dL_route_7 (lv_at hl 4 rfl) ?_
  have hPc := hP.sub (ws' := [(h0, .inr (11, oX w sg ro tr gX)), (w, .inr (10, oW kd gW 0 0))]) [0, 1] rfl
  have hDc := hD.sub (ws' := [(h0, .inr (11, oX w sg ro tr gX)), (w, .inr (10, oW kd gW 0 0))]) [0, 1] (by decide) rfl
  have hKc := hK.sub (tys' := []) [] rfl
  have hFc := roF hS hA
  refine vx_calli (vx_runV (As := [.int a0, .int a1, .int a2, .int a3]) (rest := [.int 0, .ref ou]) ⟨hx, hb, hml, hown, hts⟩ (c_X11_route l dC dI s.heap.size hfl h0 w sg ro tr gX kd gW a0 a1 a2 a3) (cwV 4 hts (gV u_794 u_795 u_796 u_1 u_797) rfl rfl rfl (by decide +kernel) ⟨Nat.le_of_ble_eq_true rfl, Nat.le_of_ble_eq_true rfl⟩) ⟨gPZ_blind, va_recv hKc hPc (ci := 11) (q0 := 0) rfl rfl, gPZ_call hPc hKc hDc hE hZ hS hFc⟩ rfl rfl hl.1 rfl (lv_room (Nat.le_of_ble_eq_true rfl)) dL_route_9 ⟨(Nat.le_of_ble_eq_true rfl), (Nat.le_of_ble_eq_true rfl)⟩) hS (fun q _ h => hFc q h) hFc (fun q _ h => hFc q h) (fun E9 ce9 q99 u9 t9 H97 locs ht hvm hpx hBX hz1 hk1 hS hce hcv hcl => ?_) (fun r98 u9 t9 H97 locs ht hvm hw hB hz1 hk1 hS => hw.elim)
  subst hBX
  refine vx_widen (k := 1) (n := 6) (Nat.le_of_ble_eq_true rfl) (Nat.le_of_ble_eq_true rfl) ?_
  refine vx_catch (pc := 9) hown [] ⟨0, 14, 17, 21⟩ [⟨0, 14, 21, 13⟩, ⟨0, 14, 25, 15⟩] (by rw [htab]; rfl) (fun z hz => nomatch hz) (by decide) (by decide) (hts _ u_606) (va_Nw.use rfl (hE.1 _ n_8)) hce hcv hcl ?_
  have hP := roP hP hk1
  refine lv_astore (lv' := [(6, .ref q99), (0, .ref h0), (1, .int a0), (2, .int a1), (3, .int a2), (4, .int a3), (5, .ref ou)]) hx hb dL_route_17 hl (by decide) rfl (fun ls hl => ?_)
  refine lv_iconst (v := 1) hx hb dL_route_19 (by decide) ?_
  refine W.widen (k := 1) (n := 6) (Nat.le_of_ble_eq_true rfl) (Nat.le_of_ble_eq_true rfl) ?_
  exact W.iret (v := 1) hx hb hr (fun t ht hW => ⟨⟨1, (), rfl, rfl, trivial⟩, hS.F ht⟩) hS.2.2 dL_route_20
set_option maxHeartbeats 4000000 in
set_option maxRecDepth 100000 in
theorem c_L_rule (l : Launch) (dC : Nat → ClassId) (dI : Nat → Nat → Nat) (sz : Nat) (hfl : l.stackTraces = false) (h0 : Nat) (ou : Nat) (w : Nat) (sg : Nat) (ro : Nat) (tr : Nat) (gX : Nat → Nat) (kd : Nat) (gW : Nat → Nat) (a0 : Int32) (a1 : Int32) (a2 : Int32) (a3 : Int32) (a4 : Int32) (a5 : Int32) (a6 : Int32) : Met l yL_rule (Cond.codeWith yL_rule cL_rule 10 (some .int) [(0, 20, 23, 21), (0, 20, 27, 13), (0, 20, 31, 15)] :: gU) ({ frames := 8, cells := 1, slots := 6, locals := 131 }) (gPZ dC dI sz [(h0, .inr (11, oX w sg ro tr gX)), (w, .inr (10, oW kd gW 0 0))] [] (va_A [] sz) [.ref h0, .int a0, .int a1, .int a2, .int a3, .int a4, .int a5, .int a6, .ref ou]) (va_Qi (fun (r : Int32) (_ : Unit) => r = 1) (fun _ _ => True) (va_A [] sz)) 1 6 (va_A [] sz) := by
  refine va_MetW (cc := cL_rule) (maxL := 10) (ret := (some .int)) (by decide) rfl ?_
  intro p e s m args below meth c s₁ B hml hv
  obtain ⟨rfl, hsz, hP, hK, hD0, hE, hZ⟩ := hv
  have hx := B.exec
  have hb := B.bytes
  have hr := B.returns
  have hts0 := atoms_spec (ws := Cond.codeWith yL_rule cL_rule 10 (some .int) [(0, 20, 23, 21), (0, 20, 27, 13), (0, 20, 31, 15)] :: gU) B.pre
  have hts : ∀ w ∈ gU, w.before _ s = true := fun w h => hts0 w (List.mem_cons_of_mem _ h)
  have hown : s.vm.findClass RL = some m.cls := findClass_of_methodNamed B.named
  have hlocks := B.notSynchronized
  have htab := vx_table (x := yL_rule) B (hts0 _ List.mem_cons_self)
  subst hsz
  have hD := hD0
  generalize hAe : va_A [] s.heap.size = A at hZ ⊢
  have hA : ∀ q : Nat, s.heap.size ≤ q → A q := fun q h => by rw [← hAe]; exact Or.inr h
  have hS : va_S A s.heap s.heap [] := va_S.rf
  have hP : va_P (dC, dI) vwCl [(h0, .inr (11, oX w sg ro tr gX)), (w, .inr (10, oW kd gW 0 0))] s.heap := hP
  have hl := lv_entry ([.ref h0, .int a0, .int a1, .int a2, .int a3, .int a4, .int a5, .int a6, .ref ou]) (n := 10) (Nat.le_of_ble_eq_true rfl)
  rw [lg_entry_eq]
  generalize (lg_sl ([.ref h0, .int a0, .int a1, .int a2, .int a3, .int a4, .int a5, .int a6, .ref ou]) ++ List.replicate (10 - (lg_sl ([.ref h0, .int a0, .int a1, .int a2, .int a3, .int a4, .int a5, .int a6, .ref ou])).length) Slot.unset).toArray = ls at hl ⊢
  have hl : lv_has ls 10 [(0, .ref h0), (1, .int a0), (2, .int a1), (3, .int a2), (4, .int a3), (5, .int a4), (6, .int a5), (7, .int a6), (8, .ref ou)] := hl
  refine lv_aload hx hb dL_rule_0 (lv_at hl 8 rfl) ?_
  refine lv_iconst (v := 0) hx hb dL_rule_2 (by decide) ?_
  refine lv_aload_n hx hb dL_rule_3 rfl (lv_at hl 0 rfl) ?_
  refine lv_iload_n hx hb dL_rule_4 rfl (lv_at hl 1 rfl) ?_
  refine lv_iload_n hx hb dL_rule_5 rfl (lv_at hl 2 rfl) ?_
  refine lv_iload_n hx hb dL_rule_6 rfl (lv_at hl 3 rfl) ?_
  refine lv_iload hx hb dL_rule_7 (lv_at hl 4 rfl) ?_
  refine lv_iload hx hb dL_rule_9 (lv_at hl 5 rfl) ?_
  refine lv_iload hx hb dL_rule_11 (lv_at hl 6 rfl) ?_
  refine lv_iload hx hb dL_rule_13 (lv_at hl 7 rfl) ?_
  have hPc := hP.sub (ws' := [(h0, .inr (11, oX w sg ro tr gX)), (w, .inr (10, oW kd gW 0 0))]) [0, 1] rfl
  have hDc := hD.sub (ws' := [(h0, .inr (11, oX w sg ro tr gX)), (w, .inr (10, oW kd gW 0 0))]) [0, 1] (by decide) rfl
  have hKc := hK.sub (tys' := []) [] rfl
  have hFc := roF hS hA
  refine vx_calli (vx_runV (As := [.int a0, .int a1, .int a2, .int a3, .int a4, .int a5, .int a6]) (rest := [.int 0, .ref ou]) ⟨hx, hb, hml, hown, hts⟩ (c_X11_rule l dC dI s.heap.size hfl h0 w sg ro tr gX kd gW a0 a1 a2 a3 a4 a5 a6) (cwV 7 hts (gV u_808 u_809 u_810 u_1 u_811) rfl rfl rfl (by decide +kernel) ⟨Nat.le_of_ble_eq_true rfl, Nat.le_of_ble_eq_true rfl⟩) ⟨gPZ_blind, va_recv hKc hPc (ci := 11) (q0 := 0) rfl rfl, gPZ_call hPc hKc hDc hE hZ hS hFc⟩ rfl rfl hl.1 rfl (lv_room (Nat.le_of_ble_eq_true rfl)) dL_rule_15 ⟨(Nat.le_of_ble_eq_true rfl), (Nat.le_of_ble_eq_true rfl)⟩) hS (fun q _ h => hFc q h) hFc (fun q _ h => hFc q h) (fun E9 ce9 q102 u9 t9 H100 locs ht hvm hpx hBX hz1 hk1 hS hce hcv hcl => ?_) (fun r101 u9 t9 H100 locs ht hvm hw hB hz1 hk1 hS => hw.elim)
  subst hBX
  refine vx_widen (k := 1) (n := 6) (Nat.le_of_ble_eq_true rfl) (Nat.le_of_ble_eq_true rfl) ?_
  refine vx_catch (pc := 15) hown [] ⟨0, 20, 23, 21⟩ [⟨0, 20, 27, 13⟩, ⟨0, 20, 31, 15⟩] (by rw [htab]; rfl) (fun z hz => nomatch hz) (by decide) (by decide) (hts _ u_606) (va_Nw.use rfl (hE.1 _ n_8)) hce hcv hcl ?_
  have hP := roP hP hk1
  refine lv_astore (lv' := [(9, .ref q102), (0, .ref h0), (1, .int a0), (2, .int a1), (3, .int a2), (4, .int a3), (5, .int a4), (6, .int a5), (7, .int a6), (8, .ref ou)]) hx hb dL_rule_23 hl (by decide) rfl (fun ls hl => ?_)
  refine lv_iconst (v := 1) hx hb dL_rule_25 (by decide) ?_
  refine W.widen (k := 1) (n := 6) (Nat.le_of_ble_eq_true rfl) (Nat.le_of_ble_eq_true rfl) ?_
  exact W.iret (v := 1) hx hb hr (fun t ht hW => ⟨⟨1, (), rfl, rfl, trivial⟩, hS.F ht⟩) hS.2.2 dL_rule_26
set_option maxHeartbeats 4000000 in
set_option maxRecDepth 100000 in
theorem c_L_watch (l : Launch) (dC : Nat → ClassId) (dI : Nat → Nat → Nat) (sz : Nat) (hfl : l.stackTraces = false) (h0 : Nat) (ou : Nat) (w : Nat) (sg : Nat) (ro : Nat) (tr : Nat) (gX : Nat → Nat) (kd : Nat) (gW : Nat → Nat) (a0 : Int32) (a1 : Int32) : Met l yL_watch (Cond.codeWith yL_watch cL_watch 5 (some .int) [(0, 17, 20, 21), (0, 17, 24, 13)] :: gU) ({ frames := 8, cells := 1, slots := 6, locals := 125 }) (gPZ dC dI sz [(h0, .inr (11, oX w sg ro tr gX)), (w, .inr (10, oW kd gW 0 0))] [] (va_A [] sz) [.ref h0, .int a0, .int a1, .ref ou]) (va_Qi (fun (r : Int32) (_ : Unit) => r = 1) (fun _ _ => True) (va_A [] sz)) 1 6 (va_A [] sz) := by
  refine va_MetW (cc := cL_watch) (maxL := 5) (ret := (some .int)) (by decide) rfl ?_
  intro p e s m args below meth c s₁ B hml hv
  obtain ⟨rfl, hsz, hP, hK, hD0, hE, hZ⟩ := hv
  have hx := B.exec
  have hb := B.bytes
  have hr := B.returns
  have hts0 := atoms_spec (ws := Cond.codeWith yL_watch cL_watch 5 (some .int) [(0, 17, 20, 21), (0, 17, 24, 13)] :: gU) B.pre
  have hts : ∀ w ∈ gU, w.before _ s = true := fun w h => hts0 w (List.mem_cons_of_mem _ h)
  have hown : s.vm.findClass RL = some m.cls := findClass_of_methodNamed B.named
  have hlocks := B.notSynchronized
  have htab := vx_table (x := yL_watch) B (hts0 _ List.mem_cons_self)
  subst hsz
  have hD := hD0
  generalize hAe : va_A [] s.heap.size = A at hZ ⊢
  have hA : ∀ q : Nat, s.heap.size ≤ q → A q := fun q h => by rw [← hAe]; exact Or.inr h
  have hS : va_S A s.heap s.heap [] := va_S.rf
  have hP : va_P (dC, dI) vwCl [(h0, .inr (11, oX w sg ro tr gX)), (w, .inr (10, oW kd gW 0 0))] s.heap := hP
  have hl := lv_entry ([.ref h0, .int a0, .int a1, .ref ou]) (n := 5) (Nat.le_of_ble_eq_true rfl)
  rw [lg_entry_eq]
  generalize (lg_sl ([.ref h0, .int a0, .int a1, .ref ou]) ++ List.replicate (5 - (lg_sl ([.ref h0, .int a0, .int a1, .ref ou])).length) Slot.unset).toArray = ls at hl ⊢
  have hl : lv_has ls 5 [(0, .ref h0), (1, .int a0), (2, .int a1), (3, .ref ou)] := hl
  refine lv_aload_n hx hb dL_watch_0 rfl (lv_at hl 3 rfl) ?_
  refine lv_iconst (v := 0) hx hb dL_watch_1 (by decide) ?_
  refine lv_aload_n hx hb dL_watch_2 rfl (lv_at hl 0 rfl) ?_
  refine lv_iload_n hx hb dL_watch_3 rfl (lv_at hl 1 rfl) ?_
  refine lv_iload_n hx hb dL_watch_4 rfl (lv_at hl 2 rfl) ?_
  have hPc := hP.sub (ws' := [(h0, .inr (11, oX w sg ro tr gX)), (w, .inr (10, oW kd gW 0 0))]) [0, 1] rfl
  have hDc := hD.sub (ws' := [(h0, .inr (11, oX w sg ro tr gX)), (w, .inr (10, oW kd gW 0 0))]) [0, 1] (by decide) rfl
  have hKc := hK.sub (tys' := []) [] rfl
  have hFc := roF hS hA
  refine vx_calli (vx_runV (As := [.int a0, .int a1]) (rest := [.int 0, .ref ou]) ⟨hx, hb, hml, hown, hts⟩ (c_X11_watch l dC dI s.heap.size hfl h0 w sg ro tr gX kd gW a0 a1) (cwV 2 hts (gV u_822 u_823 u_824 u_1 u_825) rfl rfl rfl (by decide +kernel) ⟨Nat.le_of_ble_eq_true rfl, Nat.le_of_ble_eq_true rfl⟩) ⟨gPZ_blind, va_recv hKc hPc (ci := 11) (q0 := 0) rfl rfl, gPZ_call hPc hKc hDc hE hZ hS hFc⟩ rfl rfl hl.1 rfl (lv_room (Nat.le_of_ble_eq_true rfl)) dL_watch_5 ⟨(Nat.le_of_ble_eq_true rfl), (Nat.le_of_ble_eq_true rfl)⟩) hS (fun q _ h => hFc q h) hFc (fun q _ h => hFc q h) (fun E9 ce9 q105 u9 t9 H103 locs ht hvm hpx hBX hz1 hk1 hS hce hcv hcl => ?_) (fun r104 u9 t9 H103 locs ht hvm hw hB hz1 hk1 hS => hw.elim)
  subst hBX
  refine vx_widen (k := 1) (n := 6) (Nat.le_of_ble_eq_true rfl) (Nat.le_of_ble_eq_true rfl) ?_
  refine vx_catch (pc := 5) hown [] ⟨0, 17, 20, 21⟩ [⟨0, 17, 24, 13⟩] (by rw [htab]; rfl) (fun z hz => nomatch hz) (by decide) (by decide) (hts _ u_606) (va_Nw.use rfl (hE.1 _ n_8)) hce hcv hcl ?_
  have hP := roP hP hk1
  refine lv_astore (lv' := [(4, .ref q105), (0, .ref h0), (1, .int a0), (2, .int a1), (3, .ref ou)]) hx hb dL_watch_20 hl (by decide) rfl (fun ls hl => ?_)
  refine lv_iconst (v := 1) hx hb dL_watch_22 (by decide) ?_
  refine W.widen (k := 1) (n := 6) (Nat.le_of_ble_eq_true rfl) (Nat.le_of_ble_eq_true rfl) ?_
  exact W.iret (v := 1) hx hb hr (fun t ht hW => ⟨⟨1, (), rfl, rfl, trivial⟩, hS.F ht⟩) hS.2.2 dL_watch_23
set_option maxHeartbeats 4000000 in
set_option maxRecDepth 100000 in
theorem c_L_pool (l : Launch) (dC : Nat → ClassId) (dI : Nat → Nat → Nat) (sz : Nat) (hfl : l.stackTraces = false) (h0 : Nat) (ou : Nat) (w : Nat) (sg : Nat) (ro : Nat) (tr : Nat) (gX : Nat → Nat) (kd : Nat) (gW : Nat → Nat) (a0 : Int32) (a1 : Int32) (a2 : Int32) : Met l yL_pool (Cond.codeWith yL_pool cL_pool 6 (some .int) [(0, 12, 15, 21), (0, 12, 19, 13)] :: gU) ({ frames := 8, cells := 1, slots := 6, locals := 126 }) (gPZ dC dI sz [(h0, .inr (11, oX w sg ro tr gX)), (w, .inr (10, oW kd gW 0 0))] [] (va_A [] sz) [.ref h0, .int a0, .int a1, .int a2, .ref ou]) (va_Qi (fun (r : Int32) (_ : Unit) => r = 1) (fun _ _ => True) (va_A [] sz)) 1 6 (va_A [] sz) := by
  refine va_MetW (cc := cL_pool) (maxL := 6) (ret := (some .int)) (by decide) rfl ?_
  intro p e s m args below meth c s₁ B hml hv
  obtain ⟨rfl, hsz, hP, hK, hD0, hE, hZ⟩ := hv
  have hx := B.exec
  have hb := B.bytes
  have hr := B.returns
  have hts0 := atoms_spec (ws := Cond.codeWith yL_pool cL_pool 6 (some .int) [(0, 12, 15, 21), (0, 12, 19, 13)] :: gU) B.pre
  have hts : ∀ w ∈ gU, w.before _ s = true := fun w h => hts0 w (List.mem_cons_of_mem _ h)
  have hown : s.vm.findClass RL = some m.cls := findClass_of_methodNamed B.named
  have hlocks := B.notSynchronized
  have htab := vx_table (x := yL_pool) B (hts0 _ List.mem_cons_self)
  subst hsz
  have hD := hD0
  generalize hAe : va_A [] s.heap.size = A at hZ ⊢
  have hA : ∀ q : Nat, s.heap.size ≤ q → A q := fun q h => by rw [← hAe]; exact Or.inr h
  have hS : va_S A s.heap s.heap [] := va_S.rf
  have hP : va_P (dC, dI) vwCl [(h0, .inr (11, oX w sg ro tr gX)), (w, .inr (10, oW kd gW 0 0))] s.heap := hP
  have hl := lv_entry ([.ref h0, .int a0, .int a1, .int a2, .ref ou]) (n := 6) (Nat.le_of_ble_eq_true rfl)
  rw [lg_entry_eq]
  generalize (lg_sl ([.ref h0, .int a0, .int a1, .int a2, .ref ou]) ++ List.replicate (6 - (lg_sl ([.ref h0, .int a0, .int a1, .int a2, .ref ou])).length) Slot.unset).toArray = ls at hl ⊢
  have hl : lv_has ls 6 [(0, .ref h0), (1, .int a0), (2, .int a1), (3, .int a2), (4, .ref ou)] := hl
  refine lv_aload hx hb dL_pool_0 (lv_at hl 4 rfl) ?_
  refine lv_iconst (v := 0) hx hb dL_pool_2 (by decide) ?_
  refine lv_aload_n hx hb dL_pool_3 rfl (lv_at hl 0 rfl) ?_
  refine lv_iload_n hx hb dL_pool_4 rfl (lv_at hl 1 rfl) ?_
  refine lv_iload_n hx hb dL_pool_5 rfl (lv_at hl 2 rfl) ?_
  refine lv_iload_n hx hb dL_pool_6 rfl (lv_at hl 3 rfl) ?_
  have hPc := hP.sub (ws' := [(h0, .inr (11, oX w sg ro tr gX)), (w, .inr (10, oW kd gW 0 0))]) [0, 1] rfl
  have hDc := hD.sub (ws' := [(h0, .inr (11, oX w sg ro tr gX)), (w, .inr (10, oW kd gW 0 0))]) [0, 1] (by decide) rfl
  have hKc := hK.sub (tys' := []) [] rfl
  have hFc := roF hS hA
  refine vx_calli (vx_runV (As := [.int a0, .int a1, .int a2]) (rest := [.int 0, .ref ou]) ⟨hx, hb, hml, hown, hts⟩ (c_X11_pool l dC dI s.heap.size hfl h0 w sg ro tr gX kd gW a0 a1 a2) (cwV 3 hts (gV u_833 u_834 u_835 u_1 u_836) rfl rfl rfl (by decide +kernel) ⟨Nat.le_of_ble_eq_true rfl, Nat.le_of_ble_eq_true rfl⟩) ⟨gPZ_blind, va_recv hKc hPc (ci := 11) (q0 := 0) rfl rfl, gPZ_call hPc hKc hDc hE hZ hS hFc⟩ rfl rfl hl.1 rfl (lv_room (Nat.le_of_ble_eq_true rfl)) dL_pool_7 ⟨(Nat.le_of_ble_eq_true rfl), (Nat.le_of_ble_eq_true rfl)⟩) hS (fun q _ h => hFc q h) hFc (fun q _ h => hFc q h) (fun E9 ce9 q108 u9 t9 H106 locs ht hvm hpx hBX hz1 hk1 hS hce hcv hcl => ?_) (fun r107 u9 t9 H106 locs ht hvm hw hB hz1 hk1 hS => hw.elim)
  subst hBX
  refine vx_widen (k := 1) (n := 6) (Nat.le_of_ble_eq_true rfl) (Nat.le_of_ble_eq_true rfl) ?_
  refine vx_catch (pc := 7) hown [] ⟨0, 12, 15, 21⟩ [⟨0, 12, 19, 13⟩] (by rw [htab]; rfl) (fun z hz => nomatch hz) (by decide) (by decide) (hts _ u_606) (va_Nw.use rfl (hE.1 _ n_8)) hce hcv hcl ?_
  have hP := roP hP hk1
  refine lv_astore (lv' := [(5, .ref q108), (0, .ref h0), (1, .int a0), (2, .int a1), (3, .int a2), (4, .ref ou)]) hx hb dL_pool_15 hl (by decide) rfl (fun ls hl => ?_)
  refine lv_iconst (v := 1) hx hb dL_pool_17 (by decide) ?_
  refine W.widen (k := 1) (n := 6) (Nat.le_of_ble_eq_true rfl) (Nat.le_of_ble_eq_true rfl) ?_
  exact W.iret (v := 1) hx hb hr (fun t ht hW => ⟨⟨1, (), rfl, rfl, trivial⟩, hS.F ht⟩) hS.2.2 dL_pool_18
set_option maxHeartbeats 4000000 in
set_option maxRecDepth 100000 in
theorem c_L_send (l : Launch) (dC : Nat → ClassId) (dI : Nat → Nat → Nat) (sz : Nat) (hfl : l.stackTraces = false) (h0 : Nat) (ou : Nat) (w : Nat) (sg : Nat) (ro : Nat) (tr : Nat) (gX : Nat → Nat) (kd : Nat) (gW : Nat → Nat) (a0 : Int32) (a1 : Int32) (a2 : Int32) : Met l yL_send (Cond.codeWith yL_send cL_send 6 (some .int) [(0, 12, 15, 21), (0, 12, 19, 13), (0, 12, 23, 15)] :: gU) ({ frames := 8, cells := 1, slots := 6, locals := 127 }) (gPZ dC dI sz [(h0, .inr (11, oX w sg ro tr gX)), (w, .inr (10, oW kd gW 0 0))] [] (va_A [] sz) [.ref h0, .int a0, .int a1, .int a2, .ref ou]) (va_Qi (fun (r : Int32) (_ : Unit) => r = 1) (fun _ _ => True) (va_A [] sz)) 1 6 (va_A [] sz) := by
  refine va_MetW (cc := cL_send) (maxL := 6) (ret := (some .int)) (by decide) rfl ?_
  intro p e s m args below meth c s₁ B hml hv
  obtain ⟨rfl, hsz, hP, hK, hD0, hE, hZ⟩ := hv
  have hx := B.exec
  have hb := B.bytes
  have hr := B.returns
  have hts0 := atoms_spec (ws := Cond.codeWith yL_send cL_send 6 (some .int) [(0, 12, 15, 21), (0, 12, 19, 13), (0, 12, 23, 15)] :: gU) B.pre
  have hts : ∀ w ∈ gU, w.before _ s = true := fun w h => hts0 w (List.mem_cons_of_mem _ h)
  have hown : s.vm.findClass RL = some m.cls := findClass_of_methodNamed B.named
  have hlocks := B.notSynchronized
  have htab := vx_table (x := yL_send) B (hts0 _ List.mem_cons_self)
  subst hsz
  have hD := hD0
  generalize hAe : va_A [] s.heap.size = A at hZ ⊢
  have hA : ∀ q : Nat, s.heap.size ≤ q → A q := fun q h => by rw [← hAe]; exact Or.inr h
  have hS : va_S A s.heap s.heap [] := va_S.rf
  have hP : va_P (dC, dI) vwCl [(h0, .inr (11, oX w sg ro tr gX)), (w, .inr (10, oW kd gW 0 0))] s.heap := hP
  have hl := lv_entry ([.ref h0, .int a0, .int a1, .int a2, .ref ou]) (n := 6) (Nat.le_of_ble_eq_true rfl)
  rw [lg_entry_eq]
  generalize (lg_sl ([.ref h0, .int a0, .int a1, .int a2, .ref ou]) ++ List.replicate (6 - (lg_sl ([.ref h0, .int a0, .int a1, .int a2, .ref ou])).length) Slot.unset).toArray = ls at hl ⊢
  have hl : lv_has ls 6 [(0, .ref h0), (1, .int a0), (2, .int a1), (3, .int a2), (4, .ref ou)] := hl
  refine lv_aload hx hb dL_send_0 (lv_at hl 4 rfl) ?_
  refine lv_iconst (v := 0) hx hb dL_send_2 (by decide) ?_
  refine lv_aload_n hx hb dL_send_3 rfl (lv_at hl 0 rfl) ?_
  refine lv_iload_n hx hb dL_send_4 rfl (lv_at hl 1 rfl) ?_
  refine lv_iload_n hx hb dL_send_5 rfl (lv_at hl 2 rfl) ?_
  refine lv_iload_n hx hb dL_send_6 rfl (lv_at hl 3 rfl) ?_
  have hPc := hP.sub (ws' := [(h0, .inr (11, oX w sg ro tr gX)), (w, .inr (10, oW kd gW 0 0))]) [0, 1] rfl
  have hDc := hD.sub (ws' := [(h0, .inr (11, oX w sg ro tr gX)), (w, .inr (10, oW kd gW 0 0))]) [0, 1] (by decide) rfl
  have hKc := hK.sub (tys' := []) [] rfl
  have hFc := roF hS hA
  refine vx_calli (vx_runV (As := [.int a0, .int a1, .int a2]) (rest := [.int 0, .ref ou]) ⟨hx, hb, hml, hown, hts⟩ (c_X11_send l dC dI s.heap.size hfl h0 w sg ro tr gX kd gW a0 a1 a2) (cwV 3 hts (gV u_846 u_847 u_848 u_1 u_849) rfl rfl rfl (by decide +kernel) ⟨Nat.le_of_ble_eq_true rfl, Nat.le_of_ble_eq_true rfl⟩) ⟨gPZ_blind, va_recv hKc hPc (ci := 11) (q0 := 0) rfl rfl, gPZ_call hPc hKc hDc hE hZ hS hFc⟩ rfl rfl hl.1 rfl (lv_room (Nat.le_of_ble_eq_true rfl)) dL_send_7 ⟨(Nat.le_of_ble_eq_true rfl), (Nat.le_of_ble_eq_true rfl)⟩) hS (fun q _ h => hFc q h) hFc (fun q _ h => hFc q h) (fun E9 ce9 q111 u9 t9 H109 locs ht hvm hpx hBX hz1 hk1 hS hce hcv hcl => ?_) (fun r110 u9 t9 H109 locs ht hvm hw hB hz1 hk1 hS => hw.elim)
  subst hBX
  refine vx_widen (k := 1) (n := 6) (Nat.le_of_ble_eq_true rfl) (Nat.le_of_ble_eq_true rfl) ?_
  refine vx_catch (pc := 7) hown [] ⟨0, 12, 15, 21⟩ [⟨0, 12, 19, 13⟩, ⟨0, 12, 23, 15⟩] (by rw [htab]; rfl) (fun z hz => nomatch hz) (by decide) (by decide) (hts _ u_606) (va_Nw.use rfl (hE.1 _ n_8)) hce hcv hcl ?_
  have hP := roP hP hk1
  refine lv_astore (lv' := [(5, .ref q111), (0, .ref h0), (1, .int a0), (2, .int a1), (3, .int a2), (4, .ref ou)]) hx hb dL_send_15 hl (by decide) rfl (fun ls hl => ?_)
  refine lv_iconst (v := 1) hx hb dL_send_17 (by decide) ?_
  refine W.widen (k := 1) (n := 6) (Nat.le_of_ble_eq_true rfl) (Nat.le_of_ble_eq_true rfl) ?_
  exact W.iret (v := 1) hx hb hr (fun t ht hW => ⟨⟨1, (), rfl, rfl, trivial⟩, hS.F ht⟩) hS.2.2 dL_send_18
set_option maxHeartbeats 4000000 in
set_option maxRecDepth 100000 in
theorem c_L_fate (l : Launch) (dC : Nat → ClassId) (dI : Nat → Nat → Nat) (sz : Nat) (hfl : l.stackTraces = false) (h0 : Nat) (ou : Nat) (w : Nat) (sg : Nat) (ro : Nat) (tr : Nat) (gX : Nat → Nat) (gT : Nat → Nat) (a0 : Int32) : Met l yL_fate (Cond.codeWith yL_fate cL_fate 4 (some .int) [(0, 9, 12, 21)] :: gU) ({ frames := 8, cells := 1, slots := 6, locals := 124 }) (gPZ dC dI sz [(h0, .inr (11, oX w sg ro tr gX)), (tr, .inr (9, oT w sg ro gT 0 0 0 0))] [] (va_A [] sz) [.ref h0, .int a0, .ref ou]) (va_Qi (fun (r : Int32) (_ : Unit) => r = 1) (fun _ _ => True) (va_A [] sz)) 1 6 (va_A [] sz) := by
  refine va_MetW (cc := cL_fate) (maxL := 4) (ret := (some .int)) (by decide) rfl ?_
  intro p e s m args below meth c s₁ B hml hv
  obtain ⟨rfl, hsz, hP, hK, hD0, hE, hZ⟩ := hv
  have hx := B.exec
  have hb := B.bytes
  have hr := B.returns
  have hts0 := atoms_spec (ws := Cond.codeWith yL_fate cL_fate 4 (some .int) [(0, 9, 12, 21)] :: gU) B.pre
  have hts : ∀ w ∈ gU, w.before _ s = true := fun w h => hts0 w (List.mem_cons_of_mem _ h)
  have hown : s.vm.findClass RL = some m.cls := findClass_of_methodNamed B.named
  have hlocks := B.notSynchronized
  have htab := vx_table (x := yL_fate) B (hts0 _ List.mem_cons_self)
  subst hsz
  have hD := hD0
  generalize hAe : va_A [] s.heap.size = A at hZ ⊢
  have hA : ∀ q : Nat, s.heap.size ≤ q → A q := fun q h => by rw [← hAe]; exact Or.inr h
  have hS : va_S A s.heap s.heap [] := va_S.rf
  have hP : va_P (dC, dI) vwCl [(h0, .inr (11, oX w sg ro tr gX)), (tr, .inr (9, oT w sg ro gT 0 0 0 0))] s.heap := hP
  have hl := lv_entry ([.ref h0, .int a0, .ref ou]) (n := 4) (Nat.le_of_ble_eq_true rfl)
  rw [lg_entry_eq]
  generalize (lg_sl ([.ref h0, .int a0, .ref ou]) ++ List.replicate (4 - (lg_sl ([.ref h0, .int a0, .ref ou])).length) Slot.unset).toArray = ls at hl ⊢
  have hl : lv_has ls 4 [(0, .ref h0), (1, .int a0), (2, .ref ou)] := hl
  refine lv_aload_n hx hb dL_fate_0 rfl (lv_at hl 2 rfl) ?_
  refine lv_iconst (v := 0) hx hb dL_fate_1 (by decide) ?_
  refine lv_aload_n hx hb dL_fate_2 rfl (lv_at hl 0 rfl) ?_
  refine lv_iload_n hx hb dL_fate_3 rfl (lv_at hl 1 rfl) ?_
  have hPc := hP.sub (ws' := [(h0, .inr (11, oX w sg ro tr gX)), (tr, .inr (9, oT w sg ro gT 0 0 0 0))]) [0, 1] rfl
  have hDc := hD.sub (ws' := [(h0, .inr (11, oX w sg ro tr gX)), (tr, .inr (9, oT w sg ro gT 0 0 0 0))]) [0, 1] (by decide) rfl
  have hKc := hK.sub (tys' := []) [] rfl
  have hFc := roF hS hA
  refine vx_calli (vx_runV (As := [.int a0]) (rest := [.int 0, .ref ou]) ⟨hx, hb, hml, hown, hts⟩ (c_X11_fate l dC dI s.heap.size hfl h0 w sg ro tr gX gT a0) (cwV 1 hts (gV u_1048 u_1049 u_1050 u_1 u_1051) rfl rfl rfl (by decide +kernel) ⟨Nat.le_of_ble_eq_true rfl, Nat.le_of_ble_eq_true rfl⟩) ⟨gPZ_blind, va_recv hKc hPc (ci := 11) (q0 := 0) rfl rfl, gPZ_call hPc hKc hDc hE hZ hS hFc⟩ rfl rfl hl.1 rfl (lv_room (Nat.le_of_ble_eq_true rfl)) dL_fate_4 ⟨(Nat.le_of_ble_eq_true rfl), (Nat.le_of_ble_eq_true rfl)⟩) hS (fun q _ h => hFc q h) hFc (fun q _ h => hFc q h) (fun E9 ce9 q114 u9 t9 H112 locs ht hvm hpx hBX hz1 hk1 hS hce hcv hcl => ?_) (fun r113 u9 t9 H112 locs ht hvm hw hB hz1 hk1 hS => hw.elim)
  subst hBX
  refine vx_widen (k := 1) (n := 6) (Nat.le_of_ble_eq_true rfl) (Nat.le_of_ble_eq_true rfl) ?_
  refine vx_catch (pc := 4) hown [] ⟨0, 9, 12, 21⟩ [] (by rw [htab]; rfl) (fun z hz => nomatch hz) (by decide) (by decide) (hts _ u_606) (va_Nw.use rfl (hE.1 _ n_8)) hce hcv hcl ?_
  have hP := roP hP hk1
  refine lv_astore_n (lv' := [(3, .ref q114), (0, .ref h0), (1, .int a0), (2, .ref ou)]) hx hb dL_fate_12 rfl hl (by decide) rfl (fun ls hl => ?_)
  refine lv_iconst (v := 1) hx hb dL_fate_13 (by decide) ?_
  refine W.widen (k := 1) (n := 6) (Nat.le_of_ble_eq_true rfl) (Nat.le_of_ble_eq_true rfl) ?_
  exact W.iret (v := 1) hx hb hr (fun t ht hW => ⟨⟨1, (), rfl, rfl, trivial⟩, hS.F ht⟩) hS.2.2 dL_fate_14
set_option maxHeartbeats 4000000 in
set_option maxRecDepth 100000 in
theorem c_L_where (l : Launch) (dC : Nat → ClassId) (dI : Nat → Nat → Nat) (sz : Nat) (hfl : l.stackTraces = false) (h0 : Nat) (ou : Nat) (w : Nat) (sg : Nat) (ro : Nat) (tr : Nat) (gX : Nat → Nat) (gT : Nat → Nat) (a0 : Int32) : Met l yL_where (Cond.codeWith yL_where cL_where 4 (some .int) [(0, 9, 12, 21)] :: gU) ({ frames := 8, cells := 1, slots := 6, locals := 124 }) (gPZ dC dI sz [(h0, .inr (11, oX w sg ro tr gX)), (tr, .inr (9, oT w sg ro gT 0 0 0 0))] [] (va_A [] sz) [.ref h0, .int a0, .ref ou]) (va_Qi (fun (r : Int32) (_ : Unit) => r = 1) (fun _ _ => True) (va_A [] sz)) 1 6 (va_A [] sz) := by
  refine va_MetW (cc := cL_where) (maxL := 4) (ret := (some .int)) (by decide) rfl ?_
  intro p e s m args below meth c s₁ B hml hv
  obtain ⟨rfl, hsz, hP, hK, hD0, hE, hZ⟩ := hv
  have hx := B.exec
  have hb := B.bytes
  have hr := B.returns
  have hts0 := atoms_spec (ws := Cond.codeWith yL_where cL_where 4 (some .int) [(0, 9, 12, 21)] :: gU) B.pre
  have hts : ∀ w ∈ gU, w.before _ s = true := fun w h => hts0 w (List.mem_cons_of_mem _ h)
  have hown : s.vm.findClass RL = some m.cls := findClass_of_methodNamed B.named
  have hlocks := B.notSynchronized
  have htab := vx_table (x := yL_where) B (hts0 _ List.mem_cons_self)
  subst hsz
  have hD := hD0
  generalize hAe : va_A [] s.heap.size = A at hZ ⊢
  have hA : ∀ q : Nat, s.heap.size ≤ q → A q := fun q h => by rw [← hAe]; exact Or.inr h
  have hS : va_S A s.heap s.heap [] := va_S.rf
  have hP : va_P (dC, dI) vwCl [(h0, .inr (11, oX w sg ro tr gX)), (tr, .inr (9, oT w sg ro gT 0 0 0 0))] s.heap := hP
  have hl := lv_entry ([.ref h0, .int a0, .ref ou]) (n := 4) (Nat.le_of_ble_eq_true rfl)
  rw [lg_entry_eq]
  generalize (lg_sl ([.ref h0, .int a0, .ref ou]) ++ List.replicate (4 - (lg_sl ([.ref h0, .int a0, .ref ou])).length) Slot.unset).toArray = ls at hl ⊢
  have hl : lv_has ls 4 [(0, .ref h0), (1, .int a0), (2, .ref ou)] := hl
  refine lv_aload_n hx hb dL_where_0 rfl (lv_at hl 2 rfl) ?_
  refine lv_iconst (v := 0) hx hb dL_where_1 (by decide) ?_
  refine lv_aload_n hx hb dL_where_2 rfl (lv_at hl 0 rfl) ?_
  refine lv_iload_n hx hb dL_where_3 rfl (lv_at hl 1 rfl) ?_
  have hPc := hP.sub (ws' := [(h0, .inr (11, oX w sg ro tr gX)), (tr, .inr (9, oT w sg ro gT 0 0 0 0))]) [0, 1] rfl
  have hDc := hD.sub (ws' := [(h0, .inr (11, oX w sg ro tr gX)), (tr, .inr (9, oT w sg ro gT 0 0 0 0))]) [0, 1] (by decide) rfl
  have hKc := hK.sub (tys' := []) [] rfl
  have hFc := roF hS hA
  refine vx_calli (vx_runV (As := [.int a0]) (rest := [.int 0, .ref ou]) ⟨hx, hb, hml, hown, hts⟩ (c_X11_where l dC dI s.heap.size hfl h0 w sg ro tr gX gT a0) (cwV 1 hts (gV u_1060 u_1061 u_1062 u_1 u_1063) rfl rfl rfl (by decide +kernel) ⟨Nat.le_of_ble_eq_true rfl, Nat.le_of_ble_eq_true rfl⟩) ⟨gPZ_blind, va_recv hKc hPc (ci := 11) (q0 := 0) rfl rfl, gPZ_call hPc hKc hDc hE hZ hS hFc⟩ rfl rfl hl.1 rfl (lv_room (Nat.le_of_ble_eq_true rfl)) dL_where_4 ⟨(Nat.le_of_ble_eq_true rfl), (Nat.le_of_ble_eq_true rfl)⟩) hS (fun q _ h => hFc q h) hFc (fun q _ h => hFc q h) (fun E9 ce9 q117 u9 t9 H115 locs ht hvm hpx hBX hz1 hk1 hS hce hcv hcl => ?_) (fun r116 u9 t9 H115 locs ht hvm hw hB hz1 hk1 hS => hw.elim)
  subst hBX
  refine vx_widen (k := 1) (n := 6) (Nat.le_of_ble_eq_true rfl) (Nat.le_of_ble_eq_true rfl) ?_
  refine vx_catch (pc := 4) hown [] ⟨0, 9, 12, 21⟩ [] (by rw [htab]; rfl) (fun z hz => nomatch hz) (by decide) (by decide) (hts _ u_606) (va_Nw.use rfl (hE.1 _ n_8)) hce hcv hcl ?_
  have hP := roP hP hk1
  refine lv_astore_n (lv' := [(3, .ref q117), (0, .ref h0), (1, .int a0), (2, .ref ou)]) hx hb dL_where_12 rfl hl (by decide) rfl (fun ls hl => ?_)
  refine lv_iconst (v := 1) hx hb dL_where_13 (by decide) ?_
  refine W.widen (k := 1) (n := 6) (Nat.le_of_ble_eq_true rfl) (Nat.le_of_ble_eq_true rfl) ?_
  exact W.iret (v := 1) hx hb hr (fun t ht hW => ⟨⟨1, (), rfl, rfl, trivial⟩, hS.F ht⟩) hS.2.2 dL_where_14
set_option maxHeartbeats 4000000 in
set_option maxRecDepth 100000 in
theorem c_L_source (l : Launch) (dC : Nat → ClassId) (dI : Nat → Nat → Nat) (sz : Nat) (hfl : l.stackTraces = false) (h0 : Nat) (ou : Nat) (w : Nat) (sg : Nat) (ro : Nat) (tr : Nat) (gX : Nat → Nat) (gT : Nat → Nat) (a0 : Int32) : Met l yL_source (Cond.codeWith yL_source cL_source 4 (some .int) [(0, 9, 12, 21)] :: gU) ({ frames := 8, cells := 1, slots := 6, locals := 124 }) (gPZ dC dI sz [(h0, .inr (11, oX w sg ro tr gX)), (tr, .inr (9, oT w sg ro gT 0 0 0 0))] [] (va_A [] sz) [.ref h0, .int a0, .ref ou]) (va_Qi (fun (r : Int32) (_ : Unit) => r = 1) (fun _ _ => True) (va_A [] sz)) 1 6 (va_A [] sz) := by
  refine va_MetW (cc := cL_source) (maxL := 4) (ret := (some .int)) (by decide) rfl ?_
  intro p e s m args below meth c s₁ B hml hv
  obtain ⟨rfl, hsz, hP, hK, hD0, hE, hZ⟩ := hv
  have hx := B.exec
  have hb := B.bytes
  have hr := B.returns
  have hts0 := atoms_spec (ws := Cond.codeWith yL_source cL_source 4 (some .int) [(0, 9, 12, 21)] :: gU) B.pre
  have hts : ∀ w ∈ gU, w.before _ s = true := fun w h => hts0 w (List.mem_cons_of_mem _ h)
  have hown : s.vm.findClass RL = some m.cls := findClass_of_methodNamed B.named
  have hlocks := B.notSynchronized
  have htab := vx_table (x := yL_source) B (hts0 _ List.mem_cons_self)
  subst hsz
  have hD := hD0
  generalize hAe : va_A [] s.heap.size = A at hZ ⊢
  have hA : ∀ q : Nat, s.heap.size ≤ q → A q := fun q h => by rw [← hAe]; exact Or.inr h
  have hS : va_S A s.heap s.heap [] := va_S.rf
  have hP : va_P (dC, dI) vwCl [(h0, .inr (11, oX w sg ro tr gX)), (tr, .inr (9, oT w sg ro gT 0 0 0 0))] s.heap := hP
  have hl := lv_entry ([.ref h0, .int a0, .ref ou]) (n := 4) (Nat.le_of_ble_eq_true rfl)
  rw [lg_entry_eq]
  generalize (lg_sl ([.ref h0, .int a0, .ref ou]) ++ List.replicate (4 - (lg_sl ([.ref h0, .int a0, .ref ou])).length) Slot.unset).toArray = ls at hl ⊢
  have hl : lv_has ls 4 [(0, .ref h0), (1, .int a0), (2, .ref ou)] := hl
  refine lv_aload_n hx hb dL_source_0 rfl (lv_at hl 2 rfl) ?_
  refine lv_iconst (v := 0) hx hb dL_source_1 (by decide) ?_
  refine lv_aload_n hx hb dL_source_2 rfl (lv_at hl 0 rfl) ?_
  refine lv_iload_n hx hb dL_source_3 rfl (lv_at hl 1 rfl) ?_
  have hPc := hP.sub (ws' := [(h0, .inr (11, oX w sg ro tr gX)), (tr, .inr (9, oT w sg ro gT 0 0 0 0))]) [0, 1] rfl
  have hDc := hD.sub (ws' := [(h0, .inr (11, oX w sg ro tr gX)), (tr, .inr (9, oT w sg ro gT 0 0 0 0))]) [0, 1] (by decide) rfl
  have hKc := hK.sub (tys' := []) [] rfl
  have hFc := roF hS hA
  refine vx_calli (vx_runV (As := [.int a0]) (rest := [.int 0, .ref ou]) ⟨hx, hb, hml, hown, hts⟩ (c_X11_source l dC dI s.heap.size hfl h0 w sg ro tr gX gT a0) (cwV 1 hts (gV u_1067 u_1068 u_1069 u_1 u_1070) rfl rfl rfl (by decide +kernel) ⟨Nat.le_of_ble_eq_true rfl, Nat.le_of_ble_eq_true rfl⟩) ⟨gPZ_blind, va_recv hKc hPc (ci := 11) (q0 := 0) rfl rfl, gPZ_call hPc hKc hDc hE hZ hS hFc⟩ rfl rfl hl.1 rfl (lv_room (Nat.le_of_ble_eq_true rfl)) dL_source_4 ⟨(Nat.le_of_ble_eq_true rfl), (Nat.le_of_ble_eq_true rfl)⟩) hS (fun q _ h => hFc q h) hFc (fun q _ h => hFc q h) (fun E9 ce9 q120 u9 t9 H118 locs ht hvm hpx hBX hz1 hk1 hS hce hcv hcl => ?_) (fun r119 u9 t9 H118 locs ht hvm hw hB hz1 hk1 hS => hw.elim)
  subst hBX
  refine vx_widen (k := 1) (n := 6) (Nat.le_of_ble_eq_true rfl) (Nat.le_of_ble_eq_true rfl) ?_
  refine vx_catch (pc := 4) hown [] ⟨0, 9, 12, 21⟩ [] (by rw [htab]; rfl) (fun z hz => nomatch hz) (by decide) (by decide) (hts _ u_606) (va_Nw.use rfl (hE.1 _ n_8)) hce hcv hcl ?_
  have hP := roP hP hk1
  refine lv_astore_n (lv' := [(3, .ref q120), (0, .ref h0), (1, .int a0), (2, .ref ou)]) hx hb dL_source_12 rfl hl (by decide) rfl (fun ls hl => ?_)
  refine lv_iconst (v := 1) hx hb dL_source_13 (by decide) ?_
  refine W.widen (k := 1) (n := 6) (Nat.le_of_ble_eq_true rfl) (Nat.le_of_ble_eq_true rfl) ?_
  exact W.iret (v := 1) hx hb hr (fun t ht hW => ⟨⟨1, (), rfl, rfl, trivial⟩, hS.F ht⟩) hS.2.2 dL_source_14
set_option maxHeartbeats 4000000 in
set_option maxRecDepth 100000 in
theorem c_L_noted (l : Launch) (dC : Nat → ClassId) (dI : Nat → Nat → Nat) (sz : Nat) (hfl : l.stackTraces = false) (h0 : Nat) (ou : Nat) (w : Nat) (sg : Nat) (ro : Nat) (tr : Nat) (gX : Nat → Nat) (kd : Nat) (gW : Nat → Nat) (a0 : Int32) (a1 : Int32) : Met l yL_noted (Cond.codeWith yL_noted cL_noted 5 (some .int) [(0, 10, 13, 21), (0, 10, 17, 13)] :: gU) ({ frames := 8, cells := 1, slots := 6, locals := 125 }) (gPZ dC dI sz [(h0, .inr (11, oX w sg ro tr gX)), (w, .inr (10, oW kd gW 0 0))] [] (va_A [] sz) [.ref h0, .int a0, .int a1, .ref ou]) (va_Qi (fun (r : Int32) (_ : Unit) => r = 1) (fun _ _ => True) (va_A [] sz)) 1 6 (va_A [] sz) := by
  refine va_MetW (cc := cL_noted) (maxL := 5) (ret := (some .int)) (by decide) rfl ?_
  intro p e s m args below meth c s₁ B hml hv
  obtain ⟨rfl, hsz, hP, hK, hD0, hE, hZ⟩ := hv
  have hx := B.exec
  have hb := B.bytes
  have hr := B.returns
  have hts0 := atoms_spec (ws := Cond.codeWith yL_noted cL_noted 5 (some .int) [(0, 10, 13, 21), (0, 10, 17, 13)] :: gU) B.pre
  have hts : ∀ w ∈ gU, w.before _ s = true := fun w h => hts0 w (List.mem_cons_of_mem _ h)
  have hown : s.vm.findClass RL = some m.cls := findClass_of_methodNamed B.named
  have hlocks := B.notSynchronized
  have htab := vx_table (x := yL_noted) B (hts0 _ List.mem_cons_self)
  subst hsz
  have hD := hD0
  generalize hAe : va_A [] s.heap.size = A at hZ ⊢
  have hA : ∀ q : Nat, s.heap.size ≤ q → A q := fun q h => by rw [← hAe]; exact Or.inr h
  have hS : va_S A s.heap s.heap [] := va_S.rf
  have hP : va_P (dC, dI) vwCl [(h0, .inr (11, oX w sg ro tr gX)), (w, .inr (10, oW kd gW 0 0))] s.heap := hP
  have hl := lv_entry ([.ref h0, .int a0, .int a1, .ref ou]) (n := 5) (Nat.le_of_ble_eq_true rfl)
  rw [lg_entry_eq]
  generalize (lg_sl ([.ref h0, .int a0, .int a1, .ref ou]) ++ List.replicate (5 - (lg_sl ([.ref h0, .int a0, .int a1, .ref ou])).length) Slot.unset).toArray = ls at hl ⊢
  have hl : lv_has ls 5 [(0, .ref h0), (1, .int a0), (2, .int a1), (3, .ref ou)] := hl
  refine lv_aload_n hx hb dL_noted_0 rfl (lv_at hl 3 rfl) ?_
  refine lv_iconst (v := 0) hx hb dL_noted_1 (by decide) ?_
  refine lv_aload_n hx hb dL_noted_2 rfl (lv_at hl 0 rfl) ?_
  refine lv_iload_n hx hb dL_noted_3 rfl (lv_at hl 1 rfl) ?_
  refine lv_iload_n hx hb dL_noted_4 rfl (lv_at hl 2 rfl) ?_
  have hPc := hP.sub (ws' := [(h0, .inr (11, oX w sg ro tr gX)), (w, .inr (10, oW kd gW 0 0))]) [0, 1] rfl
  have hDc := hD.sub (ws' := [(h0, .inr (11, oX w sg ro tr gX)), (w, .inr (10, oW kd gW 0 0))]) [0, 1] (by decide) rfl
  have hKc := hK.sub (tys' := []) [] rfl
  have hFc := roF hS hA
  refine vx_calli (vx_runV (As := [.int a0, .int a1]) (rest := [.int 0, .ref ou]) ⟨hx, hb, hml, hown, hts⟩ (c_X11_noted l dC dI s.heap.size hfl h0 w sg ro tr gX kd gW a0 a1) (cwV 2 hts (gV u_1074 u_1075 u_1076 u_1 u_1077) rfl rfl rfl (by decide +kernel) ⟨Nat.le_of_ble_eq_true rfl, Nat.le_of_ble_eq_true rfl⟩) ⟨gPZ_blind, va_recv hKc hPc (ci := 11) (q0 := 0) rfl rfl, gPZ_call hPc hKc hDc hE hZ hS hFc⟩ rfl rfl hl.1 rfl (lv_room (Nat.le_of_ble_eq_true rfl)) dL_noted_5 ⟨(Nat.le_of_ble_eq_true rfl), (Nat.le_of_ble_eq_true rfl)⟩) hS (fun q _ h => hFc q h) hFc (fun q _ h => hFc q h) (fun E9 ce9 q123 u9 t9 H121 locs ht hvm hpx hBX hz1 hk1 hS hce hcv hcl => ?_) (fun r122 u9 t9 H121 locs ht hvm hw hB hz1 hk1 hS => hw.elim)
  subst hBX
  refine vx_widen (k := 1) (n := 6) (Nat.le_of_ble_eq_true rfl) (Nat.le_of_ble_eq_true rfl) ?_
  refine vx_catch (pc := 5) hown [] ⟨0, 10, 13, 21⟩ [⟨0, 10, 17, 13⟩] (by rw [htab]; rfl) (fun z hz => nomatch hz) (by decide) (by decide) (hts _ u_606) (va_Nw.use rfl (hE.1 _ n_8)) hce hcv hcl ?_
  have hP := roP hP hk1
  refine lv_astore (lv' := [(4, .ref q123), (0, .ref h0), (1, .int a0), (2, .int a1), (3, .ref ou)]) hx hb dL_noted_13 hl (by decide) rfl (fun ls hl => ?_)
  refine lv_iconst (v := 1) hx hb dL_noted_15 (by decide) ?_
  refine W.widen (k := 1) (n := 6) (Nat.le_of_ble_eq_true rfl) (Nat.le_of_ble_eq_true rfl) ?_
  exact W.iret (v := 1) hx hb hr (fun t ht hW => ⟨⟨1, (), rfl, rfl, trivial⟩, hS.F ht⟩) hS.2.2 dL_noted_16
set_option maxHeartbeats 4000000 in
set_option maxRecDepth 100000 in
theorem c_L_learnt (l : Launch) (dC : Nat → ClassId) (dI : Nat → Nat → Nat) (sz : Nat) (hfl : l.stackTraces = false) (h0 : Nat) (ou : Nat) (w : Nat) (sg : Nat) (ro : Nat) (tr : Nat) (gX : Nat → Nat) (kd : Nat) (gW : Nat → Nat) (a0 : Int32) (a1 : Int32) (a2 : Int32) : Met l yL_learnt (Cond.codeWith yL_learnt cL_learnt 6 (some .int) [(0, 12, 15, 21), (0, 12, 19, 13)] :: gU) ({ frames := 8, cells := 1, slots := 6, locals := 126 }) (gPZ dC dI sz [(h0, .inr (11, oX w sg ro tr gX)), (w, .inr (10, oW kd gW 0 0))] [] (va_A [] sz) [.ref h0, .int a0, .int a1, .int a2, .ref ou]) (va_Qi (fun (r : Int32) (_ : Unit) => r = 1) (fun _ _ => True) (va_A [] sz)) 1 6 (va_A [] sz) := by
  refine va_MetW (cc := cL_learnt) (maxL := 6) (ret := (some .int)) (by decide) rfl ?_
  intro p e s m args below meth c s₁ B hml hv
  obtain ⟨rfl, hsz, hP, hK, hD0, hE, hZ⟩ := hv
  have hx := B.exec
  have hb := B.bytes
  have hr := B.returns
  have hts0 := atoms_spec (ws := Cond.codeWith yL_learnt cL_learnt 6 (some .int) [(0, 12, 15, 21), (0, 12, 19, 13)] :: gU) B.pre
  have hts : ∀ w ∈ gU, w.before _ s = true := fun w h => hts0 w (List.mem_cons_of_mem _ h)
  have hown : s.vm.findClass RL = some m.cls := findClass_of_methodNamed B.named
  have hlocks := B.notSynchronized
  have htab := vx_table (x := yL_learnt) B (hts0 _ List.mem_cons_self)
  subst hsz
  have hD := hD0
  generalize hAe : va_A [] s.heap.size = A at hZ ⊢
  have hA : ∀ q : Nat, s.heap.size ≤ q → A q := fun q h => by rw [← hAe]; exact Or.inr h
  have hS : va_S A s.heap s.heap [] := va_S.rf
  have hP : va_P (dC, dI) vwCl [(h0, .inr (11, oX w sg ro tr gX)), (w, .inr (10, oW kd gW 0 0))] s.heap := hP
  have hl := lv_entry ([.ref h0, .int a0, .int a1, .int a2, .ref ou]) (n := 6) (Nat.le_of_ble_eq_true rfl)
  rw [lg_entry_eq]
  generalize (lg_sl ([.ref h0, .int a0, .int a1, .int a2, .ref ou]) ++ List.replicate (6 - (lg_sl ([.ref h0, .int a0, .int a1, .int a2, .ref ou])).length) Slot.unset).toArray = ls at hl ⊢
  have hl : lv_has ls 6 [(0, .ref h0), (1, .int a0), (2, .int a1), (3, .int a2), (4, .ref ou)] := hl
  refine lv_aload hx hb dL_learnt_0 (lv_at hl 4 rfl) ?_
  refine lv_iconst (v := 0) hx hb dL_learnt_2 (by decide) ?_
  refine lv_aload_n hx hb dL_learnt_3 rfl (lv_at hl 0 rfl) ?_
  refine lv_iload_n hx hb dL_learnt_4 rfl (lv_at hl 1 rfl) ?_
  refine lv_iload_n hx hb dL_learnt_5 rfl (lv_at hl 2 rfl) ?_
  refine lv_iload_n hx hb dL_learnt_6 rfl (lv_at hl 3 rfl) ?_
  have hPc := hP.sub (ws' := [(h0, .inr (11, oX w sg ro tr gX)), (w, .inr (10, oW kd gW 0 0))]) [0, 1] rfl
  have hDc := hD.sub (ws' := [(h0, .inr (11, oX w sg ro tr gX)), (w, .inr (10, oW kd gW 0 0))]) [0, 1] (by decide) rfl
  have hKc := hK.sub (tys' := []) [] rfl
  have hFc := roF hS hA
  refine vx_calli (vx_runV (As := [.int a0, .int a1, .int a2]) (rest := [.int 0, .ref ou]) ⟨hx, hb, hml, hown, hts⟩ (c_X11_learnt l dC dI s.heap.size hfl h0 w sg ro tr gX kd gW a0 a1 a2) (cwV 3 hts (gV u_1082 u_1083 u_1084 u_1 u_1085) rfl rfl rfl (by decide +kernel) ⟨Nat.le_of_ble_eq_true rfl, Nat.le_of_ble_eq_true rfl⟩) ⟨gPZ_blind, va_recv hKc hPc (ci := 11) (q0 := 0) rfl rfl, gPZ_call hPc hKc hDc hE hZ hS hFc⟩ rfl rfl hl.1 rfl (lv_room (Nat.le_of_ble_eq_true rfl)) dL_learnt_7 ⟨(Nat.le_of_ble_eq_true rfl), (Nat.le_of_ble_eq_true rfl)⟩) hS (fun q _ h => hFc q h) hFc (fun q _ h => hFc q h) (fun E9 ce9 q126 u9 t9 H124 locs ht hvm hpx hBX hz1 hk1 hS hce hcv hcl => ?_) (fun r125 u9 t9 H124 locs ht hvm hw hB hz1 hk1 hS => hw.elim)
  subst hBX
  refine vx_widen (k := 1) (n := 6) (Nat.le_of_ble_eq_true rfl) (Nat.le_of_ble_eq_true rfl) ?_
  refine vx_catch (pc := 7) hown [] ⟨0, 12, 15, 21⟩ [⟨0, 12, 19, 13⟩] (by rw [htab]; rfl) (fun z hz => nomatch hz) (by decide) (by decide) (hts _ u_606) (va_Nw.use rfl (hE.1 _ n_8)) hce hcv hcl ?_
  have hP := roP hP hk1
  refine lv_astore (lv' := [(5, .ref q126), (0, .ref h0), (1, .int a0), (2, .int a1), (3, .int a2), (4, .ref ou)]) hx hb dL_learnt_15 hl (by decide) rfl (fun ls hl => ?_)
  refine lv_iconst (v := 1) hx hb dL_learnt_17 (by decide) ?_
  refine W.widen (k := 1) (n := 6) (Nat.le_of_ble_eq_true rfl) (Nat.le_of_ble_eq_true rfl) ?_
  exact W.iret (v := 1) hx hb hr (fun t ht hW => ⟨⟨1, (), rfl, rfl, trivial⟩, hS.F ht⟩) hS.2.2 dL_learnt_18
set_option maxHeartbeats 4000000 in
set_option maxRecDepth 100000 in
theorem c_L_reach (l : Launch) (dC : Nat → ClassId) (dI : Nat → Nat → Nat) (sz : Nat) (hfl : l.stackTraces = false) (h0 : Nat) (ou : Nat) (w : Nat) (sg : Nat) (ro : Nat) (tr : Nat) (gX : Nat → Nat) (kd : Nat) (gW : Nat → Nat) (a0 : Int32) (a1 : Int32) : Met l yL_reach (Cond.codeWith yL_reach cL_reach 5 (some .int) [(0, 10, 13, 21), (0, 10, 17, 13)] :: gU) ({ frames := 8, cells := 1, slots := 6, locals := 125 }) (gPZ dC dI sz [(h0, .inr (11, oX w sg ro tr gX)), (w, .inr (10, oW kd gW 0 0))] [] (va_A [] sz) [.ref h0, .int a0, .int a1, .ref ou]) (va_Qi (fun (r : Int32) (_ : Unit) => r = 1) (fun _ _ => True) (va_A [] sz)) 1 6 (va_A [] sz) := by
  refine va_MetW (cc := cL_reach) (maxL := 5) (ret := (some .int)) (by decide) rfl ?_
  intro p e s m args below meth c s₁ B hml hv
  obtain ⟨rfl, hsz, hP, hK, hD0, hE, hZ⟩ := hv
  have hx := B.exec
  have hb := B.bytes
  have hr := B.returns
  have hts0 := atoms_spec (ws := Cond.codeWith yL_reach cL_reach 5 (some .int) [(0, 10, 13, 21), (0, 10, 17, 13)] :: gU) B.pre
  have hts : ∀ w ∈ gU, w.before _ s = true := fun w h => hts0 w (List.mem_cons_of_mem _ h)
  have hown : s.vm.findClass RL = some m.cls := findClass_of_methodNamed B.named
  have hlocks := B.notSynchronized
  have htab := vx_table (x := yL_reach) B (hts0 _ List.mem_cons_self)
  subst hsz
  have hD := hD0
  generalize hAe : va_A [] s.heap.size = A at hZ ⊢
  have hA : ∀ q : Nat, s.heap.size ≤ q → A q := fun q h => by rw [← hAe]; exact Or.inr h
  have hS : va_S A s.heap s.heap [] := va_S.rf
  have hP : va_P (dC, dI) vwCl [(h0, .inr (11, oX w sg ro tr gX)), (w, .inr (10, oW kd gW 0 0))] s.heap := hP
  have hl := lv_entry ([.ref h0, .int a0, .int a1, .ref ou]) (n := 5) (Nat.le_of_ble_eq_true rfl)
  rw [lg_entry_eq]
  generalize (lg_sl ([.ref h0, .int a0, .int a1, .ref ou]) ++ List.replicate (5 - (lg_sl ([.ref h0, .int a0, .int a1, .ref ou])).length) Slot.unset).toArray = ls at hl ⊢
  have hl : lv_has ls 5 [(0, .ref h0), (1, .int a0), (2, .int a1), (3, .ref ou)] := hl
  refine lv_aload_n hx hb dL_reach_0 rfl (lv_at hl 3 rfl) ?_
  refine lv_iconst (v := 0) hx hb dL_reach_1 (by decide) ?_
  refine lv_aload_n hx hb dL_reach_2 rfl (lv_at hl 0 rfl) ?_
  refine lv_iload_n hx hb dL_reach_3 rfl (lv_at hl 1 rfl) ?_
  refine lv_iload_n hx hb dL_reach_4 rfl (lv_at hl 2 rfl) ?_
  have hPc := hP.sub (ws' := [(h0, .inr (11, oX w sg ro tr gX)), (w, .inr (10, oW kd gW 0 0))]) [0, 1] rfl
  have hDc := hD.sub (ws' := [(h0, .inr (11, oX w sg ro tr gX)), (w, .inr (10, oW kd gW 0 0))]) [0, 1] (by decide) rfl
  have hKc := hK.sub (tys' := []) [] rfl
  have hFc := roF hS hA
  refine vx_calli (vx_runV (As := [.int a0, .int a1]) (rest := [.int 0, .ref ou]) ⟨hx, hb, hml, hown, hts⟩ (c_X11_reach l dC dI s.heap.size hfl h0 w sg ro tr gX kd gW a0 a1) (cwV 2 hts (gV u_1094 u_1095 u_1096 u_1 u_1097) rfl rfl rfl (by decide +kernel) ⟨Nat.le_of_ble_eq_true rfl, Nat.le_of_ble_eq_true rfl⟩) ⟨gPZ_blind, va_recv hKc hPc (ci := 11) (q0 := 0) rfl rfl, gPZ_call hPc hKc hDc hE hZ hS hFc⟩ rfl rfl hl.1 rfl (lv_room (Nat.le_of_ble_eq_true rfl)) dL_reach_5 ⟨(Nat.le_of_ble_eq_true rfl), (Nat.le_of_ble_eq_true rfl)⟩) hS (fun q _ h => hFc q h) hFc (fun q _ h => hFc q h) (fun E9 ce9 q129 u9 t9 H127 locs ht hvm hpx hBX hz1 hk1 hS hce hcv hcl => ?_) (fun r128 u9 t9 H127 locs ht hvm hw hB hz1 hk1 hS => hw.elim)
  subst hBX
  refine vx_widen (k := 1) (n := 6) (Nat.le_of_ble_eq_true rfl) (Nat.le_of_ble_eq_true rfl) ?_
  refine vx_catch (pc := 5) hown [] ⟨0, 10, 13, 21⟩ [⟨0, 10, 17, 13⟩] (by rw [htab]; rfl) (fun z hz => nomatch hz) (by decide) (by decide) (hts _ u_606) (va_Nw.use rfl (hE.1 _ n_8)) hce hcv hcl ?_
  have hP := roP hP hk1
  refine lv_astore (lv' := [(4, .ref q129), (0, .ref h0), (1, .int a0), (2, .int a1), (3, .ref ou)]) hx hb dL_reach_13 hl (by decide) rfl (fun ls hl => ?_)
  refine lv_iconst (v := 1) hx hb dL_reach_15 (by decide) ?_
  refine W.widen (k := 1) (n := 6) (Nat.le_of_ble_eq_true rfl) (Nat.le_of_ble_eq_true rfl) ?_
  exact W.iret (v := 1) hx hb hr (fun t ht hW => ⟨⟨1, (), rfl, rfl, trivial⟩, hS.F ht⟩) hS.2.2 dL_reach_16
set_option maxHeartbeats 4000000 in
set_option maxRecDepth 100000 in
theorem c_L_reachAnew (l : Launch) (dC : Nat → ClassId) (dI : Nat → Nat → Nat) (sz : Nat) (hfl : l.stackTraces = false) (h0 : Nat) (ou : Nat) (w : Nat) (sg : Nat) (ro : Nat) (tr : Nat) (gX : Nat → Nat) (kd : Nat) (gW : Nat → Nat) (a0 : Int32) (a1 : Int32) : Met l yL_reachAnew (Cond.codeWith yL_reachAnew cL_reachAnew 5 (some .int) [(0, 10, 13, 21), (0, 10, 17, 13)] :: gU) ({ frames := 8, cells := 1, slots := 6, locals := 125 }) (gPZ dC dI sz [(h0, .inr (11, oX w sg ro tr gX)), (w, .inr (10, oW kd gW 0 0))] [] (va_A [] sz) [.ref h0, .int a0, .int a1, .ref ou]) (va_Qi (fun (r : Int32) (_ : Unit) => r = 1) (fun _ _ => True) (va_A [] sz)) 1 6 (va_A [] sz) := by
  refine va_MetW (cc := cL_reachAnew) (maxL := 5) (ret := (some .int)) (by decide) rfl ?_
  intro p e s m args below meth c s₁ B hml hv
  obtain ⟨rfl, hsz, hP, hK, hD0, hE, hZ⟩ := hv
  have hx := B.exec
  have hb := B.bytes
  have hr := B.returns
  have hts0 := atoms_spec (ws := Cond.codeWith yL_reachAnew cL_reachAnew 5 (some .int) [(0, 10, 13, 21), (0, 10, 17, 13)] :: gU) B.pre
  have hts : ∀ w ∈ gU, w.before _ s = true := fun w h => hts0 w (List.mem_cons_of_mem _ h)
  have hown : s.vm.findClass RL = some m.cls := findClass_of_methodNamed B.named
  have hlocks := B.notSynchronized
  have htab := vx_table (x := yL_reachAnew) B (hts0 _ List.mem_cons_self)
  subst hsz
  have hD := hD0
  generalize hAe : va_A [] s.heap.size = A at hZ ⊢
  have hA : ∀ q : Nat, s.heap.size ≤ q → A q := fun q h => by rw [← hAe]; exact Or.inr h
  have hS : va_S A s.heap s.heap [] := va_S.rf
  have hP : va_P (dC, dI) vwCl [(h0, .inr (11, oX w sg ro tr gX)), (w, .inr (10, oW kd gW 0 0))] s.heap := hP
  have hl := lv_entry ([.ref h0, .int a0, .int a1, .ref ou]) (n := 5) (Nat.le_of_ble_eq_true rfl)
  rw [lg_entry_eq]
  generalize (lg_sl ([.ref h0, .int a0, .int a1, .ref ou]) ++ List.replicate (5 - (lg_sl ([.ref h0, .int a0, .int a1, .ref ou])).length) Slot.unset).toArray = ls at hl ⊢
  have hl : lv_has ls 5 [(0, .ref h0), (1, .int a0), (2, .int a1), (3, .ref ou)] := hl
  refine lv_aload_n hx hb dL_reachAnew_0 rfl (lv_at hl 3 rfl) ?_
  refine lv_iconst (v := 0) hx hb dL_reachAnew_1 (by decide) ?_
  refine lv_aload_n hx hb dL_reachAnew_2 rfl (lv_at hl 0 rfl) ?_
  refine lv_iload_n hx hb dL_reachAnew_3 rfl (lv_at hl 1 rfl) ?_
  refine lv_iload_n hx hb dL_reachAnew_4 rfl (lv_at hl 2 rfl) ?_
  have hPc := hP.sub (ws' := [(h0, .inr (11, oX w sg ro tr gX)), (w, .inr (10, oW kd gW 0 0))]) [0, 1] rfl
  have hDc := hD.sub (ws' := [(h0, .inr (11, oX w sg ro tr gX)), (w, .inr (10, oW kd gW 0 0))]) [0, 1] (by decide) rfl
  have hKc := hK.sub (tys' := []) [] rfl
  have hFc := roF hS hA
  refine vx_calli (vx_runV (As := [.int a0, .int a1]) (rest := [.int 0, .ref ou]) ⟨hx, hb, hml, hown, hts⟩ (c_X11_reachAnew l dC dI s.heap.size hfl h0 w sg ro tr gX kd gW a0 a1) (cwV 2 hts (gV u_1204 u_1205 u_1206 u_1 u_1207) rfl rfl rfl (by decide +kernel) ⟨Nat.le_of_ble_eq_true rfl, Nat.le_of_ble_eq_true rfl⟩) ⟨gPZ_blind, va_recv hKc hPc (ci := 11) (q0 := 0) rfl rfl, gPZ_call hPc hKc hDc hE hZ hS hFc⟩ rfl rfl hl.1 rfl (lv_room (Nat.le_of_ble_eq_true rfl)) dL_reachAnew_5 ⟨(Nat.le_of_ble_eq_true rfl), (Nat.le_of_ble_eq_true rfl)⟩) hS (fun q _ h => hFc q h) hFc (fun q _ h => hFc q h) (fun E9 ce9 q132 u9 t9 H130 locs ht hvm hpx hBX hz1 hk1 hS hce hcv hcl => ?_) (fun r131 u9 t9 H130 locs ht hvm hw hB hz1 hk1 hS => hw.elim)
  subst hBX
  refine vx_widen (k := 1) (n := 6) (Nat.le_of_ble_eq_true rfl) (Nat.le_of_ble_eq_true rfl) ?_
  refine vx_catch (pc := 5) hown [] ⟨0, 10, 13, 21⟩ [⟨0, 10, 17, 13⟩] (by rw [htab]; rfl) (fun z hz => nomatch hz) (by decide) (by decide) (hts _ u_606) (va_Nw.use rfl (hE.1 _ n_8)) hce hcv hcl ?_
  have hP := roP hP hk1
  refine lv_astore (lv' := [(4, .ref q132), (0, .ref h0), (1, .int a0), (2, .int a1), (3, .ref ou)]) hx hb dL_reachAnew_13 hl (by decide) rfl (fun ls hl => ?_)
  refine lv_iconst (v := 1) hx hb dL_reachAnew_15 (by decide) ?_
  refine W.widen (k := 1) (n := 6) (Nat.le_of_ble_eq_true rfl) (Nat.le_of_ble_eq_true rfl) ?_
  exact W.iret (v := 1) hx hb hr (fun t ht hW => ⟨⟨1, (), rfl, rfl, trivial⟩, hS.F ht⟩) hS.2.2 dL_reachAnew_16
set_option maxHeartbeats 4000000 in
set_option maxRecDepth 100000 in
theorem c_L_proved (l : Launch) (dC : Nat → ClassId) (dI : Nat → Nat → Nat) (sz : Nat) (hfl : l.stackTraces = false) (h0 : Nat) (ou : Nat) (w : Nat) (sg : Nat) (ro : Nat) (tr : Nat) (gX : Nat → Nat) (kd : Nat) (gW : Nat → Nat) (a0 : Int32) (a1 : Int32) (a2 : Int32) : Met l yL_proved (Cond.codeWith yL_proved cL_proved 6 (some .int) [(0, 12, 15, 21), (0, 12, 19, 13)] :: gU) ({ frames := 8, cells := 1, slots := 6, locals := 126 }) (gPZ dC dI sz [(h0, .inr (11, oX w sg ro tr gX)), (w, .inr (10, oW kd gW 0 0))] [] (va_A [] sz) [.ref h0, .int a0, .int a1, .int a2, .ref ou]) (va_Qi (fun (r : Int32) (_ : Unit) => r = 1) (fun _ _ => True) (va_A [] sz)) 1 6 (va_A [] sz) := by
  refine va_MetW (cc := cL_proved) (maxL := 6) (ret := (some .int)) (by decide) rfl ?_
  intro p e s m args below meth c s₁ B hml hv
  obtain ⟨rfl, hsz, hP, hK, hD0, hE, hZ⟩ := hv
  have hx := B.exec
  have hb := B.bytes
  have hr := B.returns
  have hts0 := atoms_spec (ws := Cond.codeWith yL_proved cL_proved 6 (some .int) [(0, 12, 15, 21), (0, 12, 19, 13)] :: gU) B.pre
  have hts : ∀ w ∈ gU, w.before _ s = true := fun w h => hts0 w (List.mem_cons_of_mem _ h)
  have hown : s.vm.findClass RL = some m.cls := findClass_of_methodNamed B.named
  have hlocks := B.notSynchronized
  have htab := vx_table (x := yL_proved) B (hts0 _ List.mem_cons_self)
  subst hsz
  have hD := hD0
  generalize hAe : va_A [] s.heap.size = A at hZ ⊢
  have hA : ∀ q : Nat, s.heap.size ≤ q → A q := fun q h => by rw [← hAe]; exact Or.inr h
  have hS : va_S A s.heap s.heap [] := va_S.rf
  have hP : va_P (dC, dI) vwCl [(h0, .inr (11, oX w sg ro tr gX)), (w, .inr (10, oW kd gW 0 0))] s.heap := hP
  have hl := lv_entry ([.ref h0, .int a0, .int a1, .int a2, .ref ou]) (n := 6) (Nat.le_of_ble_eq_true rfl)
  rw [lg_entry_eq]
  generalize (lg_sl ([.ref h0, .int a0, .int a1, .int a2, .ref ou]) ++ List.replicate (6 - (lg_sl ([.ref h0, .int a0, .int a1, .int a2, .ref ou])).length) Slot.unset).toArray = ls at hl ⊢
  have hl : lv_has ls 6 [(0, .ref h0), (1, .int a0), (2, .int a1), (3, .int a2), (4, .ref ou)] := hl
  refine lv_aload hx hb dL_proved_0 (lv_at hl 4 rfl) ?_
  refine lv_iconst (v := 0) hx hb dL_proved_2 (by decide) ?_
  refine lv_aload_n hx hb dL_proved_3 rfl (lv_at hl 0 rfl) ?_
  refine lv_iload_n hx hb dL_proved_4 rfl (lv_at hl 1 rfl) ?_
  refine lv_iload_n hx hb dL_proved_5 rfl (lv_at hl 2 rfl) ?_
  refine lv_iload_n hx hb dL_proved_6 rfl (lv_at hl 3 rfl) ?_
  have hPc := hP.sub (ws' := [(h0, .inr (11, oX w sg ro tr gX)), (w, .inr (10, oW kd gW 0 0))]) [0, 1] rfl
  have hDc := hD.sub (ws' := [(h0, .inr (11, oX w sg ro tr gX)), (w, .inr (10, oW kd gW 0 0))]) [0, 1] (by decide) rfl
  have hKc := hK.sub (tys' := []) [] rfl
  have hFc := roF hS hA
  refine vx_calli (vx_runV (As := [.int a0, .int a1, .int a2]) (rest := [.int 0, .ref ou]) ⟨hx, hb, hml, hown, hts⟩ (c_X11_proved l dC dI s.heap.size hfl h0 w sg ro tr gX kd gW a0 a1 a2) (cwV 3 hts (gV u_1227 u_1228 u_1229 u_1 u_1230) rfl rfl rfl (by decide +kernel) ⟨Nat.le_of_ble_eq_true rfl, Nat.le_of_ble_eq_true rfl⟩) ⟨gPZ_blind, va_recv hKc hPc (ci := 11) (q0 := 0) rfl rfl, gPZ_call hPc hKc hDc hE hZ hS hFc⟩ rfl rfl hl.1 rfl (lv_room (Nat.le_of_ble_eq_true rfl)) dL_proved_7 ⟨(Nat.le_of_ble_eq_true rfl), (Nat.le_of_ble_eq_true rfl)⟩) hS (fun q _ h => hFc q h) hFc (fun q _ h => hFc q h) (fun E9 ce9 q135 u9 t9 H133 locs ht hvm hpx hBX hz1 hk1 hS hce hcv hcl => ?_) (fun r134 u9 t9 H133 locs ht hvm hw hB hz1 hk1 hS => hw.elim)
  subst hBX
  refine vx_widen (k := 1) (n := 6) (Nat.le_of_ble_eq_true rfl) (Nat.le_of_ble_eq_true rfl) ?_
  refine vx_catch (pc := 7) hown [] ⟨0, 12, 15, 21⟩ [⟨0, 12, 19, 13⟩] (by rw [htab]; rfl) (fun z hz => nomatch hz) (by decide) (by decide) (hts _ u_606) (va_Nw.use rfl (hE.1 _ n_8)) hce hcv hcl ?_
  have hP := roP hP hk1
  refine lv_astore (lv' := [(5, .ref q135), (0, .ref h0), (1, .int a0), (2, .int a1), (3, .int a2), (4, .ref ou)]) hx hb dL_proved_15 hl (by decide) rfl (fun ls hl => ?_)
  refine lv_iconst (v := 1) hx hb dL_proved_17 (by decide) ?_
  refine W.widen (k := 1) (n := 6) (Nat.le_of_ble_eq_true rfl) (Nat.le_of_ble_eq_true rfl) ?_
  exact W.iret (v := 1) hx hb hr (fun t ht hW => ⟨⟨1, (), rfl, rfl, trivial⟩, hS.F ht⟩) hS.2.2 dL_proved_18
set_option maxHeartbeats 4000000 in
set_option maxRecDepth 100000 in
theorem c_L_way (l : Launch) (dC : Nat → ClassId) (dI : Nat → Nat → Nat) (sz : Nat) (hfl : l.stackTraces = false) (h0 : Nat) (ou : Nat) (w : Nat) (sg : Nat) (ro : Nat) (tr : Nat) (gX : Nat → Nat) (kd : Nat) (gW : Nat → Nat) (a0 : Int32) (a1 : Int32) (a2 : Int32) (a3 : Int32) : Met l yL_way (Cond.codeWith yL_way cL_way 7 (some .int) [(0, 14, 17, 21), (0, 14, 21, 13)] :: gU) ({ frames := 8, cells := 1, slots := 6, locals := 127 }) (gPZ dC dI sz [(h0, .inr (11, oX w sg ro tr gX)), (w, .inr (10, oW kd gW 0 0))] [] (va_A [] sz) [.ref h0, .int a0, .int a1, .int a2, .int a3, .ref ou]) (va_Qi (fun (r : Int32) (_ : Unit) => r = 1) (fun _ _ => True) (va_A [] sz)) 1 6 (va_A [] sz) := by
  refine va_MetW (cc := cL_way) (maxL := 7) (ret := (some .int)) (by decide) rfl ?_
  intro p e s m args below meth c s₁ B hml hv
  obtain ⟨rfl, hsz, hP, hK, hD0, hE, hZ⟩ := hv
  have hx := B.exec
  have hb := B.bytes
  have hr := B.returns
  have hts0 := atoms_spec (ws := Cond.codeWith yL_way cL_way 7 (some .int) [(0, 14, 17, 21), (0, 14, 21, 13)] :: gU) B.pre
  have hts : ∀ w ∈ gU, w.before _ s = true := fun w h => hts0 w (List.mem_cons_of_mem _ h)
  have hown : s.vm.findClass RL = some m.cls := findClass_of_methodNamed B.named
  have hlocks := B.notSynchronized
  have htab := vx_table (x := yL_way) B (hts0 _ List.mem_cons_self)
  subst hsz
  have hD := hD0
  generalize hAe : va_A [] s.heap.size = A at hZ ⊢
  have hA : ∀ q : Nat, s.heap.size ≤ q → A q := fun q h => by rw [← hAe]; exact Or.inr h
  have hS : va_S A s.heap s.heap [] := va_S.rf
  have hP : va_P (dC, dI) vwCl [(h0, .inr (11, oX w sg ro tr gX)), (w, .inr (10, oW kd gW 0 0))] s.heap := hP
  have hl := lv_entry ([.ref h0, .int a0, .int a1, .int a2, .int a3, .ref ou]) (n := 7) (Nat.le_of_ble_eq_true rfl)
  rw [lg_entry_eq]
  generalize (lg_sl ([.ref h0, .int a0, .int a1, .int a2, .int a3, .ref ou]) ++ List.replicate (7 - (lg_sl ([.ref h0, .int a0, .int a1, .int a2, .int a3, .ref ou])).length) Slot.unset).toArray = ls at hl ⊢
  have hl : lv_has ls 7 [(0, .ref h0), (1, .int a0), (2, .int a1), (3, .int a2), (4, .int a3), (5, .ref ou)] := hl
  refine lv_aload hx hb dL_way_0 (lv_at hl 5 rfl) ?_
  refine lv_iconst (v := 0) hx hb dL_way_2 (by decide) ?_
  refine lv_aload_n hx hb dL_way_3 rfl (lv_at hl 0 rfl) ?_
  refine lv_iload_n hx hb dL_way_4 rfl (lv_at hl 1 rfl) ?_
  refine lv_iload_n hx hb dL_way_5 rfl (lv_at hl 2 rfl) ?_
  refine lv_iload_n hx hb dL_way_6 rfl (lv_at hl 3 rfl) ?_
  refine lv_iload hx hb dL_way_7 (lv_at hl 4 rfl) ?_
  have hPc := hP.sub (ws' := [(h0, .inr (11, oX w sg ro tr gX)), (w, .inr (10, oW kd gW 0 0))]) [0, 1] rfl
  have hDc := hD.sub (ws' := [(h0, .inr (11, oX w sg ro tr gX)), (w, .inr (10, oW kd gW 0 0))]) [0, 1] (by decide) rfl
  have hKc := hK.sub (tys' := []) [] rfl
  have hFc := roF hS hA
  refine vx_calli (vx_runV (As := [.int a0, .int a1, .int a2, .int a3]) (rest := [.int 0, .ref ou]) ⟨hx, hb, hml, hown, hts⟩ (c_X11_way l dC dI s.heap.size hfl h0 w sg ro tr gX kd gW a0 a1 a2 a3) (cwV 4 hts (gV u_1235 u_1236 u_1237 u_1 u_1238) rfl rfl rfl (by decide +kernel) ⟨Nat.le_of_ble_eq_true rfl, Nat.le_of_ble_eq_true rfl⟩) ⟨gPZ_blind, va_recv hKc hPc (ci := 11) (q0 := 0) rfl rfl, gPZ_call hPc hKc hDc hE hZ hS hFc⟩ rfl rfl hl.1 rfl (lv_room (Nat.le_of_ble_eq_true rfl)) dL_way_9 ⟨(Nat.le_of_ble_eq_true rfl), (Nat.le_of_ble_eq_true rfl)⟩) hS (fun q _ h => hFc q h) hFc (fun q _ h => hFc q h) (fun E9 ce9 q138 u9 t9 H136 locs ht hvm hpx hBX hz1 hk1 hS hce hcv hcl => ?_) (fun r137 u9 t9 H136 locs ht hvm hw hB hz1 hk1 hS => hw.elim)
  subst hBX
  refine vx_widen (k := 1) (n := 6) (Nat.le_of_ble_eq_true rfl) (Nat.le_of_ble_eq_true rfl) ?_
  refine vx_catch (pc := 9) hown [] ⟨0, 14, 17, 21⟩ [⟨0, 14, 21, 13⟩] (by rw [htab]; rfl) (fun z hz => nomatch hz) (by decide) (by decide) (hts _ u_606) (va_Nw.use rfl (hE.1 _ n_8)) hce hcv hcl ?_
  have hP := roP hP hk1
  refine lv_astore (lv' := [(6, .ref q138), (0, .ref h0), (1, .int a0), (2, .int a1), (3, .int a2), (4, .int a3), (5, .ref ou)]) hx hb dL_way_17 hl (by decide) rfl (fun ls hl => ?_)
  refine lv_iconst (v := 1) hx hb dL_way_19 (by decide) ?_
  refine W.widen (k := 1) (n := 6) (Nat.le_of_ble_eq_true rfl) (Nat.le_of_ble_eq_true rfl) ?_
  exact W.iret (v := 1) hx hb hr (fun t ht hW => ⟨⟨1, (), rfl, rfl, trivial⟩, hS.F ht⟩) hS.2.2 dL_way_20
end
section
theorem dX12_address_0 : decode cX12_address 0 = .ok (.aload_n 0, 1) := by decide +kernel
theorem dX12_address_1 : decode cX12_address 1 = .ok (.iload_n 1, 1) := by decide +kernel
theorem dX12_address_2 : decode cX12_address 2 = .ok (.invokevirtual 176, 3) := by decide +kernel
theorem dX12_address_5 : decode cX12_address 5 = .ok (.istore 4, 2) := by decide +kernel
theorem dX12_address_7 : decode cX12_address 7 = .ok (.aload_n 0, 1) := by decide +kernel
theorem dX12_address_8 : decode cX12_address 8 = .ok (.iload 4, 2) := by decide +kernel
theorem dX12_address_10 : decode cX12_address 10 = .ok (.ifCond .ne 7, 3) := by decide +kernel
theorem dX12_address_13 : decode cX12_address 13 = .ok (.iconst 1, 1) := by decide +kernel
theorem dX12_address_14 : decode cX12_address 14 = .ok (.goto 34, 3) := by decide +kernel
theorem dX12_address_48 : decode cX12_address 48 = .ok (.invokevirtual 140, 3) := by decide +kernel
theorem dX12_address_51 : decode cX12_address 51 = .ok (.ifCond .ne 5, 3) := by decide +kernel
theorem dX12_address_54 : decode cX12_address 54 = .ok (.iconst 0, 1) := by decide +kernel
theorem dX12_address_55 : decode cX12_address 55 = .ok (.ireturn, 1) := by decide +kernel
theorem dX12_cable_0 : decode cX12_cable 0 = .ok (.aload_n 0, 1) := by decide +kernel
theorem dX12_cable_1 : decode cX12_cable 1 = .ok (.iload_n 1, 1) := by decide +kernel
theorem dX12_cable_2 : decode cX12_cable 2 = .ok (.invokevirtual 176, 3) := by decide +kernel
theorem dX12_cable_5 : decode cX12_cable 5 = .ok (.ifCond .eq 15, 3) := by decide +kernel
theorem dX12_cable_20 : decode cX12_cable 20 = .ok (.iconst 0, 1) := by decide +kernel
theorem dX12_cable_21 : decode cX12_cable 21 = .ok (.istore_n 3, 1) := by decide +kernel
theorem dX12_cable_22 : decode cX12_cable 22 = .ok (.aload_n 0, 1) := by decide +kernel
theorem dX12_cable_23 : decode cX12_cable 23 = .ok (.iload_n 3, 1) := by decide +kernel
theorem dX12_cable_24 : decode cX12_cable 24 = .ok (.ifCond .ne 7, 3) := by decide +kernel
theorem dX12_cable_27 : decode cX12_cable 27 = .ok (.iconst 1, 1) := by decide +kernel
theorem dX12_cable_28 : decode cX12_cable 28 = .ok (.goto 50, 3) := by decide +kernel
theorem dX12_cable_78 : decode cX12_cable 78 = .ok (.invokevirtual 140, 3) := by decide +kernel
theorem dX12_cable_81 : decode cX12_cable 81 = .ok (.ifCond .ne 5, 3) := by decide +kernel
theorem dX12_cable_84 : decode cX12_cable 84 = .ok (.iconst 0, 1) := by decide +kernel
theorem dX12_cable_85 : decode cX12_cable 85 = .ok (.ireturn, 1) := by decide +kernel
theorem dX12_can_0 : decode cX12_can 0 = .ok (.aload_n 0, 1) := by decide +kernel
theorem dX12_can_1 : decode cX12_can 1 = .ok (.iload_n 1, 1) := by decide +kernel
theorem dX12_can_2 : decode cX12_can 2 = .ok (.putfield 125, 3) := by decide +kernel
theorem dX12_can_5 : decode cX12_can 5 = .ok (.iload_n 1, 1) := by decide +kernel
theorem dX12_can_6 : decode cX12_can 6 = .ok (.ifCond .ne 7, 3) := by decide +kernel
theorem dX12_can_9 : decode cX12_can 9 = .ok (.iconst 1, 1) := by decide +kernel
theorem dX12_can_10 : decode cX12_can 10 = .ok (.goto 4, 3) := by decide +kernel
theorem dX12_can_13 : decode cX12_can 13 = .ok (.iconst 0, 1) := by decide +kernel
theorem dX12_can_14 : decode cX12_can 14 = .ok (.ireturn, 1) := by decide +kernel
theorem dX12_fate_0 : decode cX12_fate 0 = .ok (.aload_n 0, 1) := by decide +kernel
theorem dX12_fate_1 : decode cX12_fate 1 = .ok (.iload_n 1, 1) := by decide +kernel
theorem dX12_fate_2 : decode cX12_fate 2 = .ok (.invokevirtual 299, 3) := by decide +kernel
theorem dX12_fate_5 : decode cX12_fate 5 = .ok (.ifCond .eq 12, 3) := by decide +kernel
theorem dX12_fate_17 : decode cX12_fate 17 = .ok (.iconst 0, 1) := by decide +kernel
theorem dX12_fate_18 : decode cX12_fate 18 = .ok (.ireturn, 1) := by decide +kernel
theorem dX12_frames_0 : decode cX12_frames 0 = .ok (.aload_n 0, 1) := by decide +kernel
theorem dX12_frames_1 : decode cX12_frames 1 = .ok (.iconst 0, 1) := by decide +kernel
theorem dX12_frames_2 : decode cX12_frames 2 = .ok (.putfield 125, 3) := by decide +kernel
theorem dX12_frames_5 : decode cX12_frames 5 = .ok (.aload_n 0, 1) := by decide +kernel
theorem dX12_frames_6 : decode cX12_frames 6 = .ok (.getfield 243, 3) := by decide +kernel
theorem dX12_frames_9 : decode cX12_frames 9 = .ok (.ireturn, 1) := by decide +kernel
theorem dX12_gateway_0 : decode cX12_gateway 0 = .ok (.aload_n 0, 1) := by decide +kernel
theorem dX12_gateway_1 : decode cX12_gateway 1 = .ok (.aload_n 0, 1) := by decide +kernel
theorem dX12_gateway_2 : decode cX12_gateway 2 = .ok (.iload_n 1, 1) := by decide +kernel
theorem dX12_gateway_3 : decode cX12_gateway 3 = .ok (.invokevirtual 136, 3) := by decide +kernel
theorem dX12_gateway_6 : decode cX12_gateway 6 = .ok (.ifCond .ne 7, 3) := by decide +kernel
theorem dX12_gateway_9 : decode cX12_gateway 9 = .ok (.iconst 1, 1) := by decide +kernel
theorem dX12_gateway_10 : decode cX12_gateway 10 = .ok (.goto 29, 3) := by decide +kernel
theorem dX12_gateway_39 : decode cX12_gateway 39 = .ok (.invokevirtual 140, 3) := by decide +kernel
theorem dX12_gateway_42 : decode cX12_gateway 42 = .ok (.ifCond .ne 5, 3) := by decide +kernel
theorem dX12_gateway_45 : decode cX12_gateway 45 = .ok (.iconst 0, 1) := by decide +kernel
theorem dX12_gateway_46 : decode cX12_gateway 46 = .ok (.ireturn, 1) := by decide +kernel
theorem dX12_isBlocked_0 : decode cX12_isBlocked 0 = .ok (.aload_n 0, 1) := by decide +kernel
theorem dX12_isBlocked_1 : decode cX12_isBlocked 1 = .ok (.aload_n 0, 1) := by decide +kernel
theorem dX12_isBlocked_2 : decode cX12_isBlocked 2 = .ok (.iload_n 1, 1) := by decide +kernel
theorem dX12_isBlocked_3 : decode cX12_isBlocked 3 = .ok (.invokevirtual 183, 3) := by decide +kernel
theorem dX12_isBlocked_6 : decode cX12_isBlocked 6 = .ok (.ifCond .eq 7, 3) := by decide +kernel
theorem dX12_isBlocked_13 : decode cX12_isBlocked 13 = .ok (.iconst 1, 1) := by decide +kernel
theorem dX12_isBlocked_14 : decode cX12_isBlocked 14 = .ok (.invokevirtual 140, 3) := by decide +kernel
theorem dX12_isBlocked_17 : decode cX12_isBlocked 17 = .ok (.ifCond .ne 5, 3) := by decide +kernel
theorem dX12_isBlocked_20 : decode cX12_isBlocked 20 = .ok (.iconst 0, 1) := by decide +kernel
theorem dX12_isBlocked_21 : decode cX12_isBlocked 21 = .ok (.ireturn, 1) := by decide +kernel
theorem dX12_isBox_0 : decode cX12_isBox 0 = .ok (.iload_n 1, 1) := by decide +kernel
theorem dX12_isBox_1 : decode cX12_isBox 1 = .ok (.iconst 0, 1) := by decide +kernel
theorem dX12_isBox_2 : decode cX12_isBox 2 = .ok (.aload_n 0, 1) := by decide +kernel
theorem dX12_isBox_3 : decode cX12_isBox 3 = .ok (.getfield 129, 3) := by decide +kernel
theorem dX12_isBox_6 : decode cX12_isBox 6 = .ok (.iconst 1, 1) := by decide +kernel
theorem dX12_isBox_7 : decode cX12_isBox 7 = .ok (.isub, 1) := by decide +kernel
theorem dX12_isBox_8 : decode cX12_isBox 8 = .ok (.invokestatic 132, 3) := by decide +kernel
theorem dX12_isBox_11 : decode cX12_isBox 11 = .ok (.ireturn, 1) := by decide +kernel
theorem dX12_isCable_0 : decode cX12_isCable 0 = .ok (.iload_n 1, 1) := by decide +kernel
theorem dX12_isCable_1 : decode cX12_isCable 1 = .ok (.iconst 0, 1) := by decide +kernel
theorem dX12_isCable_2 : decode cX12_isCable 2 = .ok (.aload_n 0, 1) := by decide +kernel
theorem dX12_isCable_3 : decode cX12_isCable 3 = .ok (.getfield 147, 3) := by decide +kernel
theorem dX12_isCable_6 : decode cX12_isCable 6 = .ok (.iconst 1, 1) := by decide +kernel
theorem dX12_isCable_7 : decode cX12_isCable 7 = .ok (.isub, 1) := by decide +kernel
theorem dX12_isCable_8 : decode cX12_isCable 8 = .ok (.invokestatic 132, 3) := by decide +kernel
theorem dX12_isCable_11 : decode cX12_isCable 11 = .ok (.ireturn, 1) := by decide +kernel
theorem dX12_isIn_0 : decode cX12_isIn 0 = .ok (.iload_n 0, 1) := by decide +kernel
theorem dX12_isIn_1 : decode cX12_isIn 1 = .ok (.iload_n 1, 1) := by decide +kernel
theorem dX12_isIn_2 : decode cX12_isIn 2 = .ok (.if_icmp .lt 12, 3) := by decide +kernel
theorem dX12_isIn_5 : decode cX12_isIn 5 = .ok (.iload_n 0, 1) := by decide +kernel
theorem dX12_isIn_6 : decode cX12_isIn 6 = .ok (.iload_n 2, 1) := by decide +kernel
theorem dX12_isIn_7 : decode cX12_isIn 7 = .ok (.if_icmp .gt 7, 3) := by decide +kernel
theorem dX12_isIn_10 : decode cX12_isIn 10 = .ok (.iconst 1, 1) := by decide +kernel
theorem dX12_isIn_11 : decode cX12_isIn 11 = .ok (.goto 4, 3) := by decide +kernel
theorem dX12_isIn_14 : decode cX12_isIn 14 = .ok (.iconst 0, 1) := by decide +kernel
theorem dX12_isIn_15 : decode cX12_isIn 15 = .ok (.ireturn, 1) := by decide +kernel
theorem dX12_isKind_0 : decode cX12_isKind 0 = .ok (.aload_n 0, 1) := by decide +kernel
theorem dX12_isKind_1 : decode cX12_isKind 1 = .ok (.iload_n 1, 1) := by decide +kernel
theorem dX12_isKind_2 : decode cX12_isKind 2 = .ok (.invokevirtual 136, 3) := by decide +kernel
theorem dX12_isKind_5 : decode cX12_isKind 5 = .ok (.ifCond .eq 17, 3) := by decide +kernel
theorem dX12_isKind_22 : decode cX12_isKind 22 = .ok (.iconst 0, 1) := by decide +kernel
theorem dX12_isKind_23 : decode cX12_isKind 23 = .ok (.ireturn, 1) := by decide +kernel
theorem dX12_isPacket_0 : decode cX12_isPacket 0 = .ok (.aload_n 0, 1) := by decide +kernel
theorem dX12_isPacket_1 : decode cX12_isPacket 1 = .ok (.iload_n 1, 1) := by decide +kernel
theorem dX12_isPacket_2 : decode cX12_isPacket 2 = .ok (.iconst 0, 1) := by decide +kernel
theorem dX12_isPacket_3 : decode cX12_isPacket 3 = .ok (.aload_n 0, 1) := by decide +kernel
theorem dX12_isPacket_4 : decode cX12_isPacket 4 = .ok (.getfield 246, 3) := by decide +kernel
theorem dX12_isPacket_7 : decode cX12_isPacket 7 = .ok (.iconst 1, 1) := by decide +kernel
theorem dX12_isPacket_8 : decode cX12_isPacket 8 = .ok (.isub, 1) := by decide +kernel
theorem dX12_isPacket_9 : decode cX12_isPacket 9 = .ok (.invokestatic 132, 3) := by decide +kernel
theorem dX12_isPacket_12 : decode cX12_isPacket 12 = .ok (.ifCond .eq 7, 3) := by decide +kernel
theorem dX12_isPacket_19 : decode cX12_isPacket 19 = .ok (.iconst 1, 1) := by decide +kernel
theorem dX12_isPacket_20 : decode cX12_isPacket 20 = .ok (.invokevirtual 140, 3) := by decide +kernel
theorem dX12_isPacket_23 : decode cX12_isPacket 23 = .ok (.ireturn, 1) := by decide +kernel
theorem dX12_isPort_0 : decode cX12_isPort 0 = .ok (.iload_n 1, 1) := by decide +kernel
theorem dX12_isPort_1 : decode cX12_isPort 1 = .ok (.ifCond .lt 55, 3) := by decide +kernel
theorem dX12_isPort_4 : decode cX12_isPort 4 = .ok (.aload_n 0, 1) := by decide +kernel
theorem dX12_isPort_5 : decode cX12_isPort 5 = .ok (.iload_n 1, 1) := by decide +kernel
theorem dX12_isPort_6 : decode cX12_isPort 6 = .ok (.iconst 4, 1) := by decide +kernel
theorem dX12_isPort_7 : decode cX12_isPort 7 = .ok (.idiv, 1) := by decide +kernel
theorem dX12_isPort_8 : decode cX12_isPort 8 = .ok (.invokevirtual 136, 3) := by decide +kernel
theorem dX12_isPort_11 : decode cX12_isPort 11 = .ok (.ifCond .eq 45, 3) := by decide +kernel
theorem dX12_isPort_56 : decode cX12_isPort 56 = .ok (.iconst 0, 1) := by decide +kernel
theorem dX12_isPort_57 : decode cX12_isPort 57 = .ok (.ireturn, 1) := by decide +kernel
theorem dX12_isSent_0 : decode cX12_isSent 0 = .ok (.aload_n 0, 1) := by decide +kernel
theorem dX12_isSent_1 : decode cX12_isSent 1 = .ok (.aload_n 0, 1) := by decide +kernel
theorem dX12_isSent_2 : decode cX12_isSent 2 = .ok (.iload_n 1, 1) := by decide +kernel
theorem dX12_isSent_3 : decode cX12_isSent 3 = .ok (.invokevirtual 136, 3) := by decide +kernel
theorem dX12_isSent_6 : decode cX12_isSent 6 = .ok (.ifCond .ne 7, 3) := by decide +kernel
theorem dX12_isSent_9 : decode cX12_isSent 9 = .ok (.iconst 1, 1) := by decide +kernel
theorem dX12_isSent_10 : decode cX12_isSent 10 = .ok (.goto 33, 3) := by decide +kernel
theorem dX12_isSent_43 : decode cX12_isSent 43 = .ok (.invokevirtual 140, 3) := by decide +kernel
theorem dX12_isSent_46 : decode cX12_isSent 46 = .ok (.ireturn, 1) := by decide +kernel
theorem dX12_learnt_0 : decode cX12_learnt 0 = .ok (.aload_n 0, 1) := by decide +kernel
theorem dX12_learnt_1 : decode cX12_learnt 1 = .ok (.aload_n 0, 1) := by decide +kernel
theorem dX12_learnt_2 : decode cX12_learnt 2 = .ok (.iload_n 1, 1) := by decide +kernel
theorem dX12_learnt_3 : decode cX12_learnt 3 = .ok (.invokevirtual 136, 3) := by decide +kernel
theorem dX12_learnt_6 : decode cX12_learnt 6 = .ok (.ifCond .ne 7, 3) := by decide +kernel
theorem dX12_learnt_9 : decode cX12_learnt 9 = .ok (.iconst 1, 1) := by decide +kernel
theorem dX12_learnt_10 : decode cX12_learnt 10 = .ok (.goto 34, 3) := by decide +kernel
theorem dX12_learnt_44 : decode cX12_learnt 44 = .ok (.invokevirtual 140, 3) := by decide +kernel
theorem dX12_learnt_47 : decode cX12_learnt 47 = .ok (.ifCond .ne 5, 3) := by decide +kernel
theorem dX12_learnt_50 : decode cX12_learnt 50 = .ok (.iconst 0, 1) := by decide +kernel
theorem dX12_learnt_51 : decode cX12_learnt 51 = .ok (.ireturn, 1) := by decide +kernel
theorem dX12_net_0 : decode cX12_net 0 = .ok (.aload_n 0, 1) := by decide +kernel
theorem dX12_net_1 : decode cX12_net 1 = .ok (.iload_n 1, 1) := by decide +kernel
theorem dX12_net_2 : decode cX12_net 2 = .ok (.invokevirtual 176, 3) := by decide +kernel
theorem dX12_net_5 : decode cX12_net 5 = .ok (.istore_n 3, 1) := by decide +kernel
theorem dX12_net_6 : decode cX12_net 6 = .ok (.aload_n 0, 1) := by decide +kernel
theorem dX12_net_7 : decode cX12_net 7 = .ok (.iload_n 3, 1) := by decide +kernel
theorem dX12_net_8 : decode cX12_net 8 = .ok (.ifCond .ne 7, 3) := by decide +kernel
theorem dX12_net_11 : decode cX12_net 11 = .ok (.iconst 1, 1) := by decide +kernel
theorem dX12_net_12 : decode cX12_net 12 = .ok (.goto 26, 3) := by decide +kernel
theorem dX12_net_38 : decode cX12_net 38 = .ok (.invokevirtual 140, 3) := by decide +kernel
theorem dX12_net_41 : decode cX12_net 41 = .ok (.ifCond .ne 5, 3) := by decide +kernel
theorem dX12_net_44 : decode cX12_net 44 = .ok (.iconst 0, 1) := by decide +kernel
theorem dX12_net_45 : decode cX12_net 45 = .ok (.ireturn, 1) := by decide +kernel
theorem dX12_noted_0 : decode cX12_noted 0 = .ok (.aload_n 0, 1) := by decide +kernel
theorem dX12_noted_1 : decode cX12_noted 1 = .ok (.iload_n 1, 1) := by decide +kernel
theorem dX12_noted_2 : decode cX12_noted 2 = .ok (.invokevirtual 136, 3) := by decide +kernel
theorem dX12_noted_5 : decode cX12_noted 5 = .ok (.ifCond .eq 15, 3) := by decide +kernel
theorem dX12_noted_20 : decode cX12_noted 20 = .ok (.iconst 0, 1) := by decide +kernel
theorem dX12_noted_21 : decode cX12_noted 21 = .ok (.istore_n 3, 1) := by decide +kernel
theorem dX12_noted_22 : decode cX12_noted 22 = .ok (.aload_n 0, 1) := by decide +kernel
theorem dX12_noted_23 : decode cX12_noted 23 = .ok (.iload_n 3, 1) := by decide +kernel
theorem dX12_noted_24 : decode cX12_noted 24 = .ok (.ifCond .ne 7, 3) := by decide +kernel
theorem dX12_noted_27 : decode cX12_noted 27 = .ok (.iconst 1, 1) := by decide +kernel
theorem dX12_noted_28 : decode cX12_noted 28 = .ok (.goto 26, 3) := by decide +kernel
theorem dX12_noted_54 : decode cX12_noted 54 = .ok (.invokevirtual 140, 3) := by decide +kernel
theorem dX12_noted_57 : decode cX12_noted 57 = .ok (.ifCond .ne 5, 3) := by decide +kernel
theorem dX12_noted_60 : decode cX12_noted 60 = .ok (.iconst 0, 1) := by decide +kernel
theorem dX12_noted_61 : decode cX12_noted 61 = .ok (.ireturn, 1) := by decide +kernel
theorem dX12_pool_0 : decode cX12_pool 0 = .ok (.aload_n 0, 1) := by decide +kernel
theorem dX12_pool_1 : decode cX12_pool 1 = .ok (.iload_n 1, 1) := by decide +kernel
theorem dX12_pool_2 : decode cX12_pool 2 = .ok (.invokevirtual 176, 3) := by decide +kernel
theorem dX12_pool_5 : decode cX12_pool 5 = .ok (.istore 4, 2) := by decide +kernel
theorem dX12_pool_7 : decode cX12_pool 7 = .ok (.iload 4, 2) := by decide +kernel
theorem dX12_pool_9 : decode cX12_pool 9 = .ok (.ifCond .eq 40, 3) := by decide +kernel
theorem dX12_pool_49 : decode cX12_pool 49 = .ok (.iconst 0, 1) := by decide +kernel
theorem dX12_pool_50 : decode cX12_pool 50 = .ok (.istore 5, 2) := by decide +kernel
theorem dX12_pool_52 : decode cX12_pool 52 = .ok (.aload_n 0, 1) := by decide +kernel
theorem dX12_pool_53 : decode cX12_pool 53 = .ok (.iload 4, 2) := by decide +kernel
theorem dX12_pool_55 : decode cX12_pool 55 = .ok (.ifCond .ne 7, 3) := by decide +kernel
theorem dX12_pool_58 : decode cX12_pool 58 = .ok (.iconst 1, 1) := by decide +kernel
theorem dX12_pool_59 : decode cX12_pool 59 = .ok (.goto 13, 3) := by decide +kernel
theorem dX12_pool_72 : decode cX12_pool 72 = .ok (.invokevirtual 140, 3) := by decide +kernel
theorem dX12_pool_75 : decode cX12_pool 75 = .ok (.ifCond .ne 5, 3) := by decide +kernel
theorem dX12_pool_78 : decode cX12_pool 78 = .ok (.iconst 0, 1) := by decide +kernel
theorem dX12_pool_79 : decode cX12_pool 79 = .ok (.ireturn, 1) := by decide +kernel
theorem dX12_proved_0 : decode cX12_proved 0 = .ok (.aload_n 0, 1) := by decide +kernel
theorem dX12_proved_1 : decode cX12_proved 1 = .ok (.iload_n 1, 1) := by decide +kernel
theorem dX12_proved_2 : decode cX12_proved 2 = .ok (.iload_n 2, 1) := by decide +kernel
theorem dX12_proved_3 : decode cX12_proved 3 = .ok (.iload_n 3, 1) := by decide +kernel
theorem dX12_proved_4 : decode cX12_proved 4 = .ok (.invokevirtual 249, 3) := by decide +kernel
theorem dX12_proved_7 : decode cX12_proved 7 = .ok (.ifCond .ne 5, 3) := by decide +kernel
theorem dX12_proved_10 : decode cX12_proved 10 = .ok (.iconst 0, 1) := by decide +kernel
theorem dX12_proved_11 : decode cX12_proved 11 = .ok (.ireturn, 1) := by decide +kernel
theorem dX12_reach_0 : decode cX12_reach 0 = .ok (.aload_n 0, 1) := by decide +kernel
theorem dX12_reach_1 : decode cX12_reach 1 = .ok (.iload_n 1, 1) := by decide +kernel
theorem dX12_reach_2 : decode cX12_reach 2 = .ok (.iload_n 2, 1) := by decide +kernel
theorem dX12_reach_3 : decode cX12_reach 3 = .ok (.invokevirtual 311, 3) := by decide +kernel
theorem dX12_reach_6 : decode cX12_reach 6 = .ok (.ireturn, 1) := by decide +kernel
theorem dX12_reachAnew_0 : decode cX12_reachAnew 0 = .ok (.aload_n 0, 1) := by decide +kernel
theorem dX12_reachAnew_1 : decode cX12_reachAnew 1 = .ok (.iload_n 1, 1) := by decide +kernel
theorem dX12_reachAnew_2 : decode cX12_reachAnew 2 = .ok (.iload_n 2, 1) := by decide +kernel
theorem dX12_reachAnew_3 : decode cX12_reachAnew 3 = .ok (.invokevirtual 311, 3) := by decide +kernel
theorem dX12_reachAnew_6 : decode cX12_reachAnew 6 = .ok (.ireturn, 1) := by decide +kernel
theorem dX12_reaches_0 : decode cX12_reaches 0 = .ok (.aload_n 0, 1) := by decide +kernel
theorem dX12_reaches_1 : decode cX12_reaches 1 = .ok (.aload_n 0, 1) := by decide +kernel
theorem dX12_reaches_2 : decode cX12_reaches 2 = .ok (.iload_n 1, 1) := by decide +kernel
theorem dX12_reaches_3 : decode cX12_reaches 3 = .ok (.invokevirtual 136, 3) := by decide +kernel
theorem dX12_reaches_6 : decode cX12_reaches 6 = .ok (.ifCond .eq 11, 3) := by decide +kernel
theorem dX12_reaches_17 : decode cX12_reaches 17 = .ok (.iconst 1, 1) := by decide +kernel
theorem dX12_reaches_18 : decode cX12_reaches 18 = .ok (.goto 17, 3) := by decide +kernel
theorem dX12_reaches_35 : decode cX12_reaches 35 = .ok (.invokevirtual 140, 3) := by decide +kernel
theorem dX12_reaches_38 : decode cX12_reaches 38 = .ok (.ifCond .ne 5, 3) := by decide +kernel
theorem dX12_reaches_41 : decode cX12_reaches 41 = .ok (.iconst 0, 1) := by decide +kernel
theorem dX12_reaches_42 : decode cX12_reaches 42 = .ok (.ireturn, 1) := by decide +kernel
theorem dX12_route_0 : decode cX12_route 0 = .ok (.aload_n 0, 1) := by decide +kernel
theorem dX12_route_1 : decode cX12_route 1 = .ok (.iload_n 1, 1) := by decide +kernel
theorem dX12_route_2 : decode cX12_route 2 = .ok (.iconst 2, 1) := by decide +kernel
theorem dX12_route_3 : decode cX12_route 3 = .ok (.invokevirtual 192, 3) := by decide +kernel
theorem dX12_route_6 : decode cX12_route 6 = .ok (.ifCond .eq 32, 3) := by decide +kernel
theorem dX12_route_38 : decode cX12_route 38 = .ok (.iconst 0, 1) := by decide +kernel
theorem dX12_route_39 : decode cX12_route 39 = .ok (.istore 5, 2) := by decide +kernel
theorem dX12_route_41 : decode cX12_route 41 = .ok (.aload_n 0, 1) := by decide +kernel
theorem dX12_route_42 : decode cX12_route 42 = .ok (.aload_n 0, 1) := by decide +kernel
theorem dX12_route_43 : decode cX12_route 43 = .ok (.iload_n 1, 1) := by decide +kernel
theorem dX12_route_44 : decode cX12_route 44 = .ok (.invokevirtual 136, 3) := by decide +kernel
theorem dX12_route_47 : decode cX12_route 47 = .ok (.ifCond .ne 7, 3) := by decide +kernel
theorem dX12_route_50 : decode cX12_route 50 = .ok (.iconst 1, 1) := by decide +kernel
theorem dX12_route_51 : decode cX12_route 51 = .ok (.goto 28, 3) := by decide +kernel
theorem dX12_route_79 : decode cX12_route 79 = .ok (.invokevirtual 140, 3) := by decide +kernel
theorem dX12_route_82 : decode cX12_route 82 = .ok (.ifCond .ne 5, 3) := by decide +kernel
theorem dX12_route_85 : decode cX12_route 85 = .ok (.iconst 0, 1) := by decide +kernel
theorem dX12_route_86 : decode cX12_route 86 = .ok (.ireturn, 1) := by decide +kernel
theorem dX12_rule_0 : decode cX12_rule 0 = .ok (.aload_n 0, 1) := by decide +kernel
theorem dX12_rule_1 : decode cX12_rule 1 = .ok (.iload_n 1, 1) := by decide +kernel
theorem dX12_rule_2 : decode cX12_rule 2 = .ok (.iconst 2, 1) := by decide +kernel
theorem dX12_rule_3 : decode cX12_rule 3 = .ok (.invokevirtual 192, 3) := by decide +kernel
theorem dX12_rule_6 : decode cX12_rule 6 = .ok (.ifCond .eq 53, 3) := by decide +kernel
theorem dX12_rule_59 : decode cX12_rule 59 = .ok (.iconst 0, 1) := by decide +kernel
theorem dX12_rule_60 : decode cX12_rule 60 = .ok (.istore 8, 2) := by decide +kernel
theorem dX12_rule_62 : decode cX12_rule 62 = .ok (.aload_n 0, 1) := by decide +kernel
theorem dX12_rule_63 : decode cX12_rule 63 = .ok (.aload_n 0, 1) := by decide +kernel
theorem dX12_rule_64 : decode cX12_rule 64 = .ok (.iload_n 1, 1) := by decide +kernel
theorem dX12_rule_65 : decode cX12_rule 65 = .ok (.invokevirtual 136, 3) := by decide +kernel
theorem dX12_rule_68 : decode cX12_rule 68 = .ok (.ifCond .ne 7, 3) := by decide +kernel
theorem dX12_rule_71 : decode cX12_rule 71 = .ok (.iconst 1, 1) := by decide +kernel
theorem dX12_rule_72 : decode cX12_rule 72 = .ok (.goto 28, 3) := by decide +kernel
theorem dX12_rule_100 : decode cX12_rule 100 = .ok (.invokevirtual 140, 3) := by decide +kernel
theorem dX12_rule_103 : decode cX12_rule 103 = .ok (.ifCond .ne 5, 3) := by decide +kernel
theorem dX12_rule_106 : decode cX12_rule 106 = .ok (.iconst 0, 1) := by decide +kernel
theorem dX12_rule_107 : decode cX12_rule 107 = .ok (.ireturn, 1) := by decide +kernel
theorem dX12_sees_0 : decode cX12_sees 0 = .ok (.aload_n 0, 1) := by decide +kernel
theorem dX12_sees_1 : decode cX12_sees 1 = .ok (.iload_n 1, 1) := by decide +kernel
theorem dX12_sees_2 : decode cX12_sees 2 = .ok (.invokevirtual 176, 3) := by decide +kernel
theorem dX12_sees_5 : decode cX12_sees 5 = .ok (.ifCond .eq 15, 3) := by decide +kernel
theorem dX12_sees_20 : decode cX12_sees 20 = .ok (.iconst 0, 1) := by decide +kernel
theorem dX12_sees_21 : decode cX12_sees 21 = .ok (.istore_n 3, 1) := by decide +kernel
theorem dX12_sees_22 : decode cX12_sees 22 = .ok (.aload_n 0, 1) := by decide +kernel
theorem dX12_sees_23 : decode cX12_sees 23 = .ok (.iload_n 3, 1) := by decide +kernel
theorem dX12_sees_24 : decode cX12_sees 24 = .ok (.ifCond .ne 7, 3) := by decide +kernel
theorem dX12_sees_27 : decode cX12_sees 27 = .ok (.iconst 1, 1) := by decide +kernel
theorem dX12_sees_28 : decode cX12_sees 28 = .ok (.goto 31, 3) := by decide +kernel
theorem dX12_sees_59 : decode cX12_sees 59 = .ok (.invokevirtual 140, 3) := by decide +kernel
theorem dX12_sees_62 : decode cX12_sees 62 = .ok (.ifCond .ne 5, 3) := by decide +kernel
theorem dX12_sees_65 : decode cX12_sees 65 = .ok (.iconst 0, 1) := by decide +kernel
theorem dX12_sees_66 : decode cX12_sees 66 = .ok (.ireturn, 1) := by decide +kernel
theorem dX12_send_0 : decode cX12_send 0 = .ok (.aload_n 0, 1) := by decide +kernel
theorem dX12_send_1 : decode cX12_send 1 = .ok (.iload_n 1, 1) := by decide +kernel
theorem dX12_send_2 : decode cX12_send 2 = .ok (.iload_n 2, 1) := by decide +kernel
theorem dX12_send_3 : decode cX12_send 3 = .ok (.iload_n 3, 1) := by decide +kernel
theorem dX12_send_4 : decode cX12_send 4 = .ok (.invokevirtual 249, 3) := by decide +kernel
theorem dX12_send_7 : decode cX12_send 7 = .ok (.ifCond .eq 24, 3) := by decide +kernel
theorem dX12_send_31 : decode cX12_send 31 = .ok (.iconst 0, 1) := by decide +kernel
theorem dX12_send_32 : decode cX12_send 32 = .ok (.ireturn, 1) := by decide +kernel
theorem dX12_source_0 : decode cX12_source 0 = .ok (.aload_n 0, 1) := by decide +kernel
theorem dX12_source_1 : decode cX12_source 1 = .ok (.iload_n 1, 1) := by decide +kernel
theorem dX12_source_2 : decode cX12_source 2 = .ok (.invokevirtual 299, 3) := by decide +kernel
theorem dX12_source_5 : decode cX12_source 5 = .ok (.ifCond .eq 12, 3) := by decide +kernel
theorem dX12_source_17 : decode cX12_source 17 = .ok (.iconst 0, 1) := by decide +kernel
theorem dX12_source_18 : decode cX12_source 18 = .ok (.ireturn, 1) := by decide +kernel
theorem dX12_thrown_0 : decode cX12_thrown 0 = .ok (.aload_n 0, 1) := by decide +kernel
theorem dX12_thrown_1 : decode cX12_thrown 1 = .ok (.getfield 125, 3) := by decide +kernel
theorem dX12_thrown_4 : decode cX12_thrown 4 = .ok (.ireturn, 1) := by decide +kernel
theorem dX12_turn_0 : decode cX12_turn 0 = .ok (.aload_n 0, 1) := by decide +kernel
theorem dX12_turn_1 : decode cX12_turn 1 = .ok (.aload_n 0, 1) := by decide +kernel
theorem dX12_turn_2 : decode cX12_turn 2 = .ok (.iload_n 1, 1) := by decide +kernel
theorem dX12_turn_3 : decode cX12_turn 3 = .ok (.invokevirtual 183, 3) := by decide +kernel
theorem dX12_turn_6 : decode cX12_turn 6 = .ok (.ifCond .eq 7, 3) := by decide +kernel
theorem dX12_turn_13 : decode cX12_turn 13 = .ok (.iconst 1, 1) := by decide +kernel
theorem dX12_turn_14 : decode cX12_turn 14 = .ok (.invokevirtual 140, 3) := by decide +kernel
theorem dX12_turn_17 : decode cX12_turn 17 = .ok (.ifCond .ne 5, 3) := by decide +kernel
theorem dX12_turn_20 : decode cX12_turn 20 = .ok (.iconst 0, 1) := by decide +kernel
theorem dX12_turn_21 : decode cX12_turn 21 = .ok (.ireturn, 1) := by decide +kernel
theorem dX12_watch_0 : decode cX12_watch 0 = .ok (.aload_n 0, 1) := by decide +kernel
theorem dX12_watch_1 : decode cX12_watch 1 = .ok (.aload_n 0, 1) := by decide +kernel
theorem dX12_watch_2 : decode cX12_watch 2 = .ok (.iload_n 1, 1) := by decide +kernel
theorem dX12_watch_3 : decode cX12_watch 3 = .ok (.invokevirtual 136, 3) := by decide +kernel
theorem dX12_watch_6 : decode cX12_watch 6 = .ok (.ifCond .ne 7, 3) := by decide +kernel
theorem dX12_watch_9 : decode cX12_watch 9 = .ok (.iconst 1, 1) := by decide +kernel
theorem dX12_watch_10 : decode cX12_watch 10 = .ok (.goto 17, 3) := by decide +kernel
theorem dX12_watch_27 : decode cX12_watch 27 = .ok (.invokevirtual 140, 3) := by decide +kernel
theorem dX12_watch_30 : decode cX12_watch 30 = .ok (.ifCond .ne 5, 3) := by decide +kernel
theorem dX12_watch_33 : decode cX12_watch 33 = .ok (.iconst 0, 1) := by decide +kernel
theorem dX12_watch_34 : decode cX12_watch 34 = .ok (.ireturn, 1) := by decide +kernel
theorem dX12_way_0 : decode cX12_way 0 = .ok (.aload_n 0, 1) := by decide +kernel
theorem dX12_way_1 : decode cX12_way 1 = .ok (.iload_n 1, 1) := by decide +kernel
theorem dX12_way_2 : decode cX12_way 2 = .ok (.invokevirtual 136, 3) := by decide +kernel
theorem dX12_way_5 : decode cX12_way 5 = .ok (.ifCond .eq 12, 3) := by decide +kernel
theorem dX12_way_17 : decode cX12_way 17 = .ok (.iconst 0, 1) := by decide +kernel
theorem dX12_way_18 : decode cX12_way 18 = .ok (.istore 5, 2) := by decide +kernel
theorem dX12_way_20 : decode cX12_way 20 = .ok (.aload_n 0, 1) := by decide +kernel
theorem dX12_way_21 : decode cX12_way 21 = .ok (.iload 5, 2) := by decide +kernel
theorem dX12_way_23 : decode cX12_way 23 = .ok (.ifCond .eq 7, 3) := by decide +kernel
theorem dX12_way_30 : decode cX12_way 30 = .ok (.iconst 1, 1) := by decide +kernel
theorem dX12_way_31 : decode cX12_way 31 = .ok (.invokevirtual 140, 3) := by decide +kernel
theorem dX12_way_34 : decode cX12_way 34 = .ok (.ifCond .eq 13, 3) := by decide +kernel
theorem dX12_way_47 : decode cX12_way 47 = .ok (.iconst 0, 1) := by decide +kernel
theorem dX12_way_48 : decode cX12_way 48 = .ok (.ireturn, 1) := by decide +kernel
theorem dX12_where_0 : decode cX12_where 0 = .ok (.aload_n 0, 1) := by decide +kernel
theorem dX12_where_1 : decode cX12_where 1 = .ok (.iload_n 1, 1) := by decide +kernel
theorem dX12_where_2 : decode cX12_where 2 = .ok (.invokevirtual 299, 3) := by decide +kernel
theorem dX12_where_5 : decode cX12_where 5 = .ok (.ifCond .eq 12, 3) := by decide +kernel
theorem dX12_where_17 : decode cX12_where 17 = .ok (.iconst 0, 1) := by decide +kernel
theorem dX12_where_18 : decode cX12_where 18 = .ok (.ireturn, 1) := by decide +kernel
theorem u_14 : Cond.initialized RX12 ∈ gU := gm (i := 14) (by decide +kernel) (by decide +kernel)
theorem u_1250 : Cond.fieldLink RX12 129 "DrystoneSimnetModel" "boxes" "I" ∈ gU := gm (i := 1250) (by decide +kernel) (by decide +kernel)
theorem u_1252 : Cond.fieldLink RX12 147 "DrystoneSimnetModel" "cables" "I" ∈ gU := gm (i := 1252) (by decide +kernel) (by decide +kernel)
theorem u_1284 : Cond.fieldLink RX12 243 "DrystoneSimnetModel" "frames" "I" ∈ gU := gm (i := 1284) (by decide +kernel) (by decide +kernel)
theorem u_1287 : Cond.fieldLink RX12 246 "DrystoneSimnetModel" "packets" "I" ∈ gU := gm (i := 1287) (by decide +kernel) (by decide +kernel)
theorem u_1296 : Cond.fieldLink RX12 125 "DrystoneSimnetModel" "thrown" "I" ∈ gU := gm (i := 1296) (by decide +kernel) (by decide +kernel)
theorem u_1400 : Cond.methodLink RX12 132 yX12_isIn ∈ gU := gm (i := 1400) (by decide +kernel) (by decide +kernel)
theorem u_1401 : Cond.static yX12_isIn ∈ gU := gm (i := 1401) (by decide +kernel) (by decide +kernel)
theorem u_1402 : Cond.code yX12_isIn cX12_isIn 3 (some .boolean) ∈ gU := gm (i := 1402) (by decide +kernel) (by decide +kernel)
theorem u_1403 : Cond.methodLink RX12 140 yX12_can ∈ gU := gm (i := 1403) (by decide +kernel) (by decide +kernel)
theorem u_1405 : Cond.instanceMethod yX12_can ∈ gU := gm (i := 1405) (by decide +kernel) (by decide +kernel)
theorem u_1406 : Cond.code yX12_can cX12_can 2 (some .boolean) ∈ gU := gm (i := 1406) (by decide +kernel) (by decide +kernel)
theorem u_1411 : Cond.methodLink RX12 176 yX12_isPort ∈ gU := gm (i := 1411) (by decide +kernel) (by decide +kernel)
theorem u_1413 : Cond.instanceMethod yX12_isPort ∈ gU := gm (i := 1413) (by decide +kernel) (by decide +kernel)
theorem u_1414 : Cond.code yX12_isPort cX12_isPort 2 (some .boolean) ∈ gU := gm (i := 1414) (by decide +kernel) (by decide +kernel)
theorem u_1415 : Cond.methodLink RX12 136 yX12_isBox ∈ gU := gm (i := 1415) (by decide +kernel) (by decide +kernel)
theorem u_1417 : Cond.instanceMethod yX12_isBox ∈ gU := gm (i := 1417) (by decide +kernel) (by decide +kernel)
theorem u_1418 : Cond.code yX12_isBox cX12_isBox 2 (some .boolean) ∈ gU := gm (i := 1418) (by decide +kernel) (by decide +kernel)
theorem u_1423 : Cond.methodLink RX12 183 yX12_isCable ∈ gU := gm (i := 1423) (by decide +kernel) (by decide +kernel)
theorem u_1425 : Cond.instanceMethod yX12_isCable ∈ gU := gm (i := 1425) (by decide +kernel) (by decide +kernel)
theorem u_1426 : Cond.code yX12_isCable cX12_isCable 2 (some .boolean) ∈ gU := gm (i := 1426) (by decide +kernel) (by decide +kernel)
theorem u_1494 : Cond.methodLink RX12 192 yX12_isKind ∈ gU := gm (i := 1494) (by decide +kernel) (by decide +kernel)
theorem u_1496 : Cond.instanceMethod yX12_isKind ∈ gU := gm (i := 1496) (by decide +kernel) (by decide +kernel)
theorem u_1497 : Cond.code yX12_isKind cX12_isKind 3 (some .boolean) ∈ gU := gm (i := 1497) (by decide +kernel) (by decide +kernel)
theorem u_1518 : Cond.methodLink RX12 249 yX12_isSent ∈ gU := gm (i := 1518) (by decide +kernel) (by decide +kernel)
theorem u_1520 : Cond.instanceMethod yX12_isSent ∈ gU := gm (i := 1520) (by decide +kernel) (by decide +kernel)
theorem u_1521 : Cond.code yX12_isSent cX12_isSent 4 (some .boolean) ∈ gU := gm (i := 1521) (by decide +kernel) (by decide +kernel)
theorem u_1635 : Cond.methodLink RX12 299 yX12_isPacket ∈ gU := gm (i := 1635) (by decide +kernel) (by decide +kernel)
theorem u_1637 : Cond.instanceMethod yX12_isPacket ∈ gU := gm (i := 1637) (by decide +kernel) (by decide +kernel)
theorem u_1638 : Cond.code yX12_isPacket cX12_isPacket 2 (some .boolean) ∈ gU := gm (i := 1638) (by decide +kernel) (by decide +kernel)
theorem u_1663 : Cond.methodLink RX12 311 yX12_reaches ∈ gU := gm (i := 1663) (by decide +kernel) (by decide +kernel)
theorem u_1665 : Cond.instanceMethod yX12_reaches ∈ gU := gm (i := 1665) (by decide +kernel) (by decide +kernel)
theorem u_1666 : Cond.code yX12_reaches cX12_reaches 5 (some .int) ∈ gU := gm (i := 1666) (by decide +kernel) (by decide +kernel)
theorem v_44 : Cond.selects RX12 yX12_can yX12_can ∈ gU := gp (i := 44) (q := (yX12_can, 47)) (by decide +kernel) (by decide +kernel)
theorem v_45 : Cond.selects RX12 yX12_isPort yX12_isPort ∈ gU := gp (i := 45) (q := (yX12_isPort, 47)) (by decide +kernel) (by decide +kernel)
theorem v_46 : Cond.selects RX12 yX12_isBox yX12_isBox ∈ gU := gp (i := 46) (q := (yX12_isBox, 47)) (by decide +kernel) (by decide +kernel)
theorem v_47 : Cond.selects RX12 yX12_isCable yX12_isCable ∈ gU := gp (i := 47) (q := (yX12_isCable, 47)) (by decide +kernel) (by decide +kernel)
theorem v_59 : Cond.selects RX12 yX12_isKind yX12_isKind ∈ gU := gp (i := 59) (q := (yX12_isKind, 47)) (by decide +kernel) (by decide +kernel)
theorem v_60 : Cond.selects RX12 yX12_isSent yX12_isSent ∈ gU := gp (i := 60) (q := (yX12_isSent, 47)) (by decide +kernel) (by decide +kernel)
theorem v_85 : Cond.selects RX12 yX12_isPacket yX12_isPacket ∈ gU := gp (i := 85) (q := (yX12_isPacket, 47)) (by decide +kernel) (by decide +kernel)
theorem v_86 : Cond.selects RX12 yX12_reaches yX12_reaches ∈ gU := gp (i := 86) (q := (yX12_reaches, 47)) (by decide +kernel) (by decide +kernel)
theorem gX12 : ∀ w ∈ u_ws RX12 TX12 47, w ∈ gU := gIn [1297, 1299, 1301, 1303, 1305, 1307, 1309, 1311, 1313, 1315, 1317, 1319, 1321, 1323, 1325, 1327, 1329, 1331, 1333, 1335, 1337, 1339, 1341, 1343, 1345, 1347, 1349, 1351, 1353, 1355, 1357, 1359, 1361, 1363, 1365, 1367, 1369, 1371, 1373, 1375, 1377, 1379, 1381, 1383, 1385, 1387, 1389] (by decide +kernel) (by decide +kernel)
set_option maxHeartbeats 4000000 in
set_option maxRecDepth 100000 in
theorem c_X12_isIn (l : Launch) (dC : Nat → ClassId) (dI : Nat → Nat → Nat) (sz : Nat) (a : Int32) (lo : Int32) (hi : Int32) : Met l yX12_isIn (Cond.code yX12_isIn cX12_isIn 3 (some .boolean) :: gU) ({ frames := 0, cells := 0, slots := 0, locals := 0 }) (gP dC dI sz [] [] [.int a, .int lo, .int hi]) (va_Qi (fun (r : Int32) (_ : Unit) => r = gIs a lo hi) (fun _ _ => True) (va_A [] sz)) 0 0 (va_A [] sz) := by
  refine Met.ofW (cc := cX12_isIn) (maxL := 3) (ret := (some .boolean)) (by decide) rfl ?_
  intro p e s m args below meth c s₁ B hml hv
  obtain ⟨rfl, hsz, hP, hK, hD0, hE⟩ := hv
  have hx := B.exec
  have hb := B.bytes
  have hr := B.returns
  have hts0 := atoms_spec (ws := Cond.code yX12_isIn cX12_isIn 3 (some .boolean) :: gU) B.pre
  have hts : ∀ w ∈ gU, w.before _ s = true := fun w h => hts0 w (List.mem_cons_of_mem _ h)
  have hown : s.vm.findClass RX12 = some m.cls := findClass_of_methodNamed B.named
  have hlocks := B.notSynchronized
  subst hsz
  have hD := hD0
  generalize hAe : va_A [] s.heap.size = A at ⊢
  have hA : ∀ q : Nat, s.heap.size ≤ q → A q := fun q h => by rw [← hAe]; exact Or.inr h
  have hS : va_S A s.heap s.heap [] := va_S.rf
  have hP : va_P (dC, dI) vwCl [] s.heap := hP
  have hl := lv_entry ([.int a, .int lo, .int hi]) (n := 3) (Nat.le_of_ble_eq_true rfl)
  rw [lg_entry_eq]
  generalize (lg_sl ([.int a, .int lo, .int hi]) ++ List.replicate (3 - (lg_sl ([.int a, .int lo, .int hi])).length) Slot.unset).toArray = ls at hl ⊢
  have hl : lv_has ls 3 [(0, .int a), (1, .int lo), (2, .int hi)] := hl
  refine lv_iload_n hx hb dX12_isIn_0 rfl (lv_at hl 0 rfl) ?_
  refine lv_iload_n hx hb dX12_isIn_1 rfl (lv_at hl 1 rfl) ?_
  refine lv_icmp_lt (tgt := 14) hx hb dX12_isIn_2 (by decide) (fun h1 => ?_) (fun h1 => ?_)
  · refine lv_iconst (v := 0) hx hb dX12_isIn_14 (by decide) ?_
    refine W.widen (k := 0) (n := 0) (Nat.le_of_ble_eq_true rfl) (Nat.le_of_ble_eq_true rfl) ?_
    exact W.zret (v := 0) hx hb hr (by decide) (fun t ht hW => ⟨⟨0, (), rfl, (if_neg (fun q => i_lt_nle h1 q.1)).symm, trivial⟩, hS.F ht⟩) hS.2.2 dX12_isIn_15
  · refine lv_iload_n hx hb dX12_isIn_5 rfl (lv_at hl 0 rfl) ?_
    refine lv_iload_n hx hb dX12_isIn_6 rfl (lv_at hl 2 rfl) ?_
    refine lv_icmp_gt (tgt := 14) hx hb dX12_isIn_7 (by decide) (fun h2 => ?_) (fun h2 => ?_)
    · refine lv_iconst (v := 0) hx hb dX12_isIn_14 (by decide) ?_
      refine W.widen (k := 0) (n := 0) (Nat.le_of_ble_eq_true rfl) (Nat.le_of_ble_eq_true rfl) ?_
      exact W.zret (v := 0) hx hb hr (by decide) (fun t ht hW => ⟨⟨0, (), rfl, (if_neg (fun q => i_lt_nle h2 q.2)).symm, trivial⟩, hS.F ht⟩) hS.2.2 dX12_isIn_15
    · refine lv_iconst (v := 1) hx hb dX12_isIn_10 (by decide) ?_
      refine lv_goto (tgt := 15) hx hb dX12_isIn_11 (by decide) ?_
      refine W.widen (k := 0) (n := 0) (Nat.le_of_ble_eq_true rfl) (Nat.le_of_ble_eq_true rfl) ?_
      exact W.zret (v := 1) hx hb hr (by decide) (fun t ht hW => ⟨⟨1, (), rfl, (if_pos ⟨i_nlt h1, i_nlt h2⟩).symm, trivial⟩, hS.F ht⟩) hS.2.2 dX12_isIn_15
set_option maxHeartbeats 4000000 in
set_option maxRecDepth 100000 in
theorem c_X12_can (l : Launch) (dC : Nat → ClassId) (dI : Nat → Nat → Nat) (sz : Nat) (m0 : Nat) (kd : Nat) (gw : Nat) (fa : Nat) (gM : Nat → Nat) (th : Int32) (a0 : Int32) : Met l yX12_can (Cond.code yX12_can cX12_can 2 (some .boolean) :: gU) ({ frames := 0, cells := 0, slots := 0, locals := 0 }) (gP dC dI sz [(m0, .inr (12, mM kd gw fa gM 0 0 0 0 0 0 0 0 th))] [] [.ref m0, .int a0]) (va_Qi (fun (r : Int32) (_ : Unit) => r = gCan a0) (fun (_ : Unit) (t9 : State) => va_P (dC, dI) vwCl [(m0, .inr (12, mM kd gw fa gM 0 0 0 0 0 0 0 0 a0))] t9.heap ∧ va_K (dC, dI) vwCl [] t9 ∧ va_D (va_A [(m0, .inr (12, mM kd gw fa gM 0 0 0 0 0 0 0 0 th))] sz) [(m0, .inr (12, mM kd gw fa gM 0 0 0 0 0 0 0 0 a0))]) (va_A [(m0, .inr (12, mM kd gw fa gM 0 0 0 0 0 0 0 0 th))] sz)) 0 0 (va_A [(m0, .inr (12, mM kd gw fa gM 0 0 0 0 0 0 0 0 th))] sz) := by
  refine Met.ofW (cc := cX12_can) (maxL := 2) (ret := (some .boolean)) (by decide) rfl ?_
  intro p e s m args below meth c s₁ B hml hv
  obtain ⟨rfl, hsz, hP, hK, hD0, hE⟩ := hv
  have hx := B.exec
  have hb := B.bytes
  have hr := B.returns
  have hts0 := atoms_spec (ws := Cond.code yX12_can cX12_can 2 (some .boolean) :: gU) B.pre
  have hts : ∀ w ∈ gU, w.before _ s = true := fun w h => hts0 w (List.mem_cons_of_mem _ h)
  have hown : s.vm.findClass RX12 = some m.cls := findClass_of_methodNamed B.named
  have hlocks := B.notSynchronized
  subst hsz
  have hD := hD0.self (sz := s.heap.size)
  generalize hAe : va_A [(m0, .inr (12, mM kd gw fa gM 0 0 0 0 0 0 0 0 th))] s.heap.size = A at hD ⊢
  have hA : ∀ q : Nat, s.heap.size ≤ q → A q := fun q h => by rw [← hAe]; exact Or.inr h
  have hS : va_S A s.heap s.heap [] := va_S.rf
  have hP : va_P (dC, dI) vwCl [(m0, .inr (12, mM kd gw fa gM 0 0 0 0 0 0 0 0 th))] s.heap := hP
  have hl := lv_entry ([.ref m0, .int a0]) (n := 2) (Nat.le_of_ble_eq_true rfl)
  rw [lg_entry_eq]
  generalize (lg_sl ([.ref m0, .int a0]) ++ List.replicate (2 - (lg_sl ([.ref m0, .int a0])).length) Slot.unset).toArray = ls at hl ⊢
  have hl : lv_has ls 2 [(0, .ref m0), (1, .int a0)] := hl
  refine lv_aload_n hx hb dX12_can_0 rfl (lv_at hl 0 rfl) ?_
  refine lv_iload_n hx hb dX12_can_1 rfl (lv_at hl 1 rfl) ?_
  refine va_put (D := (dC, dI)) (ci := 12) (v := .int a0) (ty := .int) (C := RX12) (T := TX12) (N := 47) hx hb hts gX12 tyX12 tyX12_ok nmX12 hown hK hP hD hS 0 rfl rfl 46 (by decide) (hts _ u_1296) (fun _ h9 => h9) rfl (by decide +kernel) rfl rfl (Nat.le_of_ble_eq_true rfl) dX12_can_2 (fun H139 locs hP hD hS => ?_)
  have hP : va_P (dC, dI) vwCl [(m0, .inr (12, mM kd gw fa gM 0 0 0 0 0 0 0 0 a0))] H139 := hP
  have hD : va_D A [(m0, .inr (12, mM kd gw fa gM 0 0 0 0 0 0 0 0 a0))] := hD
  refine lv_iload_n hx hb dX12_can_5 rfl (lv_at hl 1 rfl) ?_
  refine lv_if_ne (tgt := 13) hx hb dX12_can_6 (by decide) (fun h1 => ?_) (fun h1 => ?_)
  · refine lv_iconst (v := 0) hx hb dX12_can_13 (by decide) ?_
    refine W.widen (k := 0) (n := 0) (Nat.le_of_ble_eq_true rfl) (Nat.le_of_ble_eq_true rfl) ?_
    exact W.zret (v := 0) hx hb hr (by decide) (fun t ht hW => ⟨⟨0, (), rfl, (if_neg h1).symm, ⟨by rw [ht]; exact hP, va_K.moved hW.alike hK, hD⟩⟩, hS.F ht⟩) hS.2.2 dX12_can_14
  · refine lv_iconst (v := 1) hx hb dX12_can_9 (by decide) ?_
    refine lv_goto (tgt := 14) hx hb dX12_can_10 (by decide) ?_
    refine W.widen (k := 0) (n := 0) (Nat.le_of_ble_eq_true rfl) (Nat.le_of_ble_eq_true rfl) ?_
    exact W.zret (v := 1) hx hb hr (by decide) (fun t ht hW => ⟨⟨1, (), rfl, (if_pos h1).symm, ⟨by rw [ht]; exact hP, va_K.moved hW.alike hK, hD⟩⟩, hS.F ht⟩) hS.2.2 dX12_can_14
set_option maxHeartbeats 4000000 in
set_option maxRecDepth 100000 in
theorem c_X12_isBox (l : Launch) (dC : Nat → ClassId) (dI : Nat → Nat → Nat) (sz : Nat) (m0 : Nat) (kd : Nat) (gw : Nat) (fa : Nat) (gM : Nat → Nat) (th : Int32) (a0 : Int32) : Met l yX12_isBox (Cond.code yX12_isBox cX12_isBox 2 (some .boolean) :: gU) ({ frames := 1, cells := 0, slots := 0, locals := 22 }) (gP dC dI sz [(m0, .inr (12, mM kd gw fa gM 0 0 0 0 0 0 0 0 th))] [] [.ref m0, .int a0]) (va_Qi (fun (r : Int32) (_ : Unit) => r = 0) (fun _ _ => True) (va_A [] sz)) 0 0 (va_A [] sz) := by
  refine Met.ofW (cc := cX12_isBox) (maxL := 2) (ret := (some .boolean)) (by decide) rfl ?_
  intro p e s m args below meth c s₁ B hml hv
  obtain ⟨rfl, hsz, hP, hK, hD0, hE⟩ := hv
  have hx := B.exec
  have hb := B.bytes
  have hr := B.returns
  have hts0 := atoms_spec (ws := Cond.code yX12_isBox cX12_isBox 2 (some .boolean) :: gU) B.pre
  have hts : ∀ w ∈ gU, w.before _ s = true := fun w h => hts0 w (List.mem_cons_of_mem _ h)
  have hown : s.vm.findClass RX12 = some m.cls := findClass_of_methodNamed B.named
  have hlocks := B.notSynchronized
  subst hsz
  have hD := hD0
  generalize hAe : va_A [] s.heap.size = A at ⊢
  have hA : ∀ q : Nat, s.heap.size ≤ q → A q := fun q h => by rw [← hAe]; exact Or.inr h
  have hS : va_S A s.heap s.heap [] := va_S.rf
  have hP : va_P (dC, dI) vwCl [(m0, .inr (12, mM kd gw fa gM 0 0 0 0 0 0 0 0 th))] s.heap := hP
  have hl := lv_entry ([.ref m0, .int a0]) (n := 2) (Nat.le_of_ble_eq_true rfl)
  rw [lg_entry_eq]
  generalize (lg_sl ([.ref m0, .int a0]) ++ List.replicate (2 - (lg_sl ([.ref m0, .int a0])).length) Slot.unset).toArray = ls at hl ⊢
  have hl : lv_has ls 2 [(0, .ref m0), (1, .int a0)] := hl
  refine lv_iload_n hx hb dX12_isBox_0 rfl (lv_at hl 1 rfl) ?_
  refine lv_iconst (v := 0) hx hb dX12_isBox_1 (by decide) ?_
  refine lv_aload_n hx hb dX12_isBox_2 rfl (lv_at hl 0 rfl) ?_
  refine va_get (D := (dC, dI)) (ci := 12) (v := .int 0) (C := RX12) (T := TX12) (N := 47) hx hb hts gX12 hown hK hP 0 rfl rfl 0 (by decide) (hts _ u_1250) (fun _ h9 => h9) rfl dX12_isBox_3 ?_
  refine lv_iconst (v := 1) hx hb dX12_isBox_6 (by decide) ?_
  refine lv_isub hx hb dX12_isBox_7 ?_
  refine lv_topi (fun z140 ez140 => ?_)
  obtain rfl : z140 = (-1) := ez140.trans (by decide)
  have hPc := hP.sub (ws' := []) [] rfl
  have hDc := hD.sub (ws' := []) [] (by decide) rfl
  have hKc := hK.sub (tys' := []) [] rfl
  have hFc := roF hS hA
  refine va_calli (va_runS (As := [.int a0, .int 0, .int (-1)]) (rest := []) ⟨hx, hb, hml, hown, hts⟩ (c_X12_isIn l dC dI s.heap.size a0 0 (-1)) (va_cwS 3 hts (gS u_1400 u_1401 u_14 u_1402) rfl rfl rfl (by decide +kernel) ⟨Nat.le_of_ble_eq_true rfl, Nat.le_of_ble_eq_true rfl⟩) ⟨gP_blind, gP_call hPc hKc hDc hE⟩ rfl rfl hl.1 rfl (lv_room (Nat.le_of_ble_eq_true rfl)) dX12_isBox_8 ⟨(Nat.le_of_ble_eq_true rfl), (Nat.le_of_ble_eq_true rfl)⟩) hS (fun q _ h => hFc q h) hFc (fun r142 u9 t9 H141 locs ht hvm hw hB hz1 hk1 hS => ?_)
  have hP := roP hP hk1
  subst hw
  rw [gIs_no]
  refine W.widen (k := 0) (n := 0) (Nat.le_of_ble_eq_true rfl) (Nat.le_of_ble_eq_true rfl) ?_
  exact W.zret (v := 0) hx hb hr (by decide) (fun t ht hW => ⟨⟨0, (), rfl, rfl, trivial⟩, hS.F ht⟩) hS.2.2 dX12_isBox_11
set_option maxHeartbeats 4000000 in
set_option maxRecDepth 100000 in
theorem c_X12_isCable (l : Launch) (dC : Nat → ClassId) (dI : Nat → Nat → Nat) (sz : Nat) (m0 : Nat) (kd : Nat) (gw : Nat) (fa : Nat) (gM : Nat → Nat) (th : Int32) (a0 : Int32) : Met l yX12_isCable (Cond.code yX12_isCable cX12_isCable 2 (some .boolean) :: gU) ({ frames := 1, cells := 0, slots := 0, locals := 22 }) (gP dC dI sz [(m0, .inr (12, mM kd gw fa gM 0 0 0 0 0 0 0 0 th))] [] [.ref m0, .int a0]) (va_Qi (fun (r : Int32) (_ : Unit) => r = 0) (fun _ _ => True) (va_A [] sz)) 0 0 (va_A [] sz) := by
  refine Met.ofW (cc := cX12_isCable) (maxL := 2) (ret := (some .boolean)) (by decide) rfl ?_
  intro p e s m args below meth c s₁ B hml hv
  obtain ⟨rfl, hsz, hP, hK, hD0, hE⟩ := hv
  have hx := B.exec
  have hb := B.bytes
  have hr := B.returns
  have hts0 := atoms_spec (ws := Cond.code yX12_isCable cX12_isCable 2 (some .boolean) :: gU) B.pre
  have hts : ∀ w ∈ gU, w.before _ s = true := fun w h => hts0 w (List.mem_cons_of_mem _ h)
  have hown : s.vm.findClass RX12 = some m.cls := findClass_of_methodNamed B.named
  have hlocks := B.notSynchronized
  subst hsz
  have hD := hD0
  generalize hAe : va_A [] s.heap.size = A at ⊢
  have hA : ∀ q : Nat, s.heap.size ≤ q → A q := fun q h => by rw [← hAe]; exact Or.inr h
  have hS : va_S A s.heap s.heap [] := va_S.rf
  have hP : va_P (dC, dI) vwCl [(m0, .inr (12, mM kd gw fa gM 0 0 0 0 0 0 0 0 th))] s.heap := hP
  have hl := lv_entry ([.ref m0, .int a0]) (n := 2) (Nat.le_of_ble_eq_true rfl)
  rw [lg_entry_eq]
  generalize (lg_sl ([.ref m0, .int a0]) ++ List.replicate (2 - (lg_sl ([.ref m0, .int a0])).length) Slot.unset).toArray = ls at hl ⊢
  have hl : lv_has ls 2 [(0, .ref m0), (1, .int a0)] := hl
  refine lv_iload_n hx hb dX12_isCable_0 rfl (lv_at hl 1 rfl) ?_
  refine lv_iconst (v := 0) hx hb dX12_isCable_1 (by decide) ?_
  refine lv_aload_n hx hb dX12_isCable_2 rfl (lv_at hl 0 rfl) ?_
  refine va_get (D := (dC, dI)) (ci := 12) (v := .int 0) (C := RX12) (T := TX12) (N := 47) hx hb hts gX12 hown hK hP 0 rfl rfl 2 (by decide) (hts _ u_1252) (fun _ h9 => h9) rfl dX12_isCable_3 ?_
  refine lv_iconst (v := 1) hx hb dX12_isCable_6 (by decide) ?_
  refine lv_isub hx hb dX12_isCable_7 ?_
  refine lv_topi (fun z143 ez143 => ?_)
  obtain rfl : z143 = (-1) := ez143.trans (by decide)
  have hPc := hP.sub (ws' := []) [] rfl
  have hDc := hD.sub (ws' := []) [] (by decide) rfl
  have hKc := hK.sub (tys' := []) [] rfl
  have hFc := roF hS hA
  refine va_calli (va_runS (As := [.int a0, .int 0, .int (-1)]) (rest := []) ⟨hx, hb, hml, hown, hts⟩ (c_X12_isIn l dC dI s.heap.size a0 0 (-1)) (va_cwS 3 hts (gS u_1400 u_1401 u_14 u_1402) rfl rfl rfl (by decide +kernel) ⟨Nat.le_of_ble_eq_true rfl, Nat.le_of_ble_eq_true rfl⟩) ⟨gP_blind, gP_call hPc hKc hDc hE⟩ rfl rfl hl.1 rfl (lv_room (Nat.le_of_ble_eq_true rfl)) dX12_isCable_8 ⟨(Nat.le_of_ble_eq_true rfl), (Nat.le_of_ble_eq_true rfl)⟩) hS (fun q _ h => hFc q h) hFc (fun r145 u9 t9 H144 locs ht hvm hw hB hz1 hk1 hS => ?_)
  have hP := roP hP hk1
  subst hw
  rw [gIs_no]
  refine W.widen (k := 0) (n := 0) (Nat.le_of_ble_eq_true rfl) (Nat.le_of_ble_eq_true rfl) ?_
  exact W.zret (v := 0) hx hb hr (by decide) (fun t ht hW => ⟨⟨0, (), rfl, rfl, trivial⟩, hS.F ht⟩) hS.2.2 dX12_isCable_11
set_option maxHeartbeats 4000000 in
set_option maxRecDepth 100000 in
theorem c_X12_isPort (l : Launch) (dC : Nat → ClassId) (dI : Nat → Nat → Nat) (sz : Nat) (m0 : Nat) (kd : Nat) (gw : Nat) (fa : Nat) (gM : Nat → Nat) (th : Int32) (a0 : Int32) : Met l yX12_isPort (Cond.code yX12_isPort cX12_isPort 2 (some .boolean) :: gU) ({ frames := 2, cells := 0, slots := 0, locals := 43 }) (gP dC dI sz [(m0, .inr (12, mM kd gw fa gM 0 0 0 0 0 0 0 0 th))] [] [.ref m0, .int a0]) (va_Qi (fun (r : Int32) (_ : Unit) => r = 0) (fun _ _ => True) (va_A [] sz)) 0 0 (va_A [] sz) := by
  refine Met.ofW (cc := cX12_isPort) (maxL := 2) (ret := (some .boolean)) (by decide) rfl ?_
  intro p e s m args below meth c s₁ B hml hv
  obtain ⟨rfl, hsz, hP, hK, hD0, hE⟩ := hv
  have hx := B.exec
  have hb := B.bytes
  have hr := B.returns
  have hts0 := atoms_spec (ws := Cond.code yX12_isPort cX12_isPort 2 (some .boolean) :: gU) B.pre
  have hts : ∀ w ∈ gU, w.before _ s = true := fun w h => hts0 w (List.mem_cons_of_mem _ h)
  have hown : s.vm.findClass RX12 = some m.cls := findClass_of_methodNamed B.named
  have hlocks := B.notSynchronized
  subst hsz
  have hD := hD0
  generalize hAe : va_A [] s.heap.size = A at ⊢
  have hA : ∀ q : Nat, s.heap.size ≤ q → A q := fun q h => by rw [← hAe]; exact Or.inr h
  have hS : va_S A s.heap s.heap [] := va_S.rf
  have hP : va_P (dC, dI) vwCl [(m0, .inr (12, mM kd gw fa gM 0 0 0 0 0 0 0 0 th))] s.heap := hP
  have hl := lv_entry ([.ref m0, .int a0]) (n := 2) (Nat.le_of_ble_eq_true rfl)
  rw [lg_entry_eq]
  generalize (lg_sl ([.ref m0, .int a0]) ++ List.replicate (2 - (lg_sl ([.ref m0, .int a0])).length) Slot.unset).toArray = ls at hl ⊢
  have hl : lv_has ls 2 [(0, .ref m0), (1, .int a0)] := hl
  refine lv_iload_n hx hb dX12_isPort_0 rfl (lv_at hl 1 rfl) ?_
  refine lv_if_lt (tgt := 56) hx hb dX12_isPort_1 (by decide) (fun h1 => ?_) (fun h1 => ?_)
  · refine lv_iconst (v := 0) hx hb dX12_isPort_56 (by decide) ?_
    refine W.widen (k := 0) (n := 0) (Nat.le_of_ble_eq_true rfl) (Nat.le_of_ble_eq_true rfl) ?_
    exact W.zret (v := 0) hx hb hr (by decide) (fun t ht hW => ⟨⟨0, (), rfl, rfl, trivial⟩, hS.F ht⟩) hS.2.2 dX12_isPort_57
  · refine lv_aload_n hx hb dX12_isPort_4 rfl (lv_at hl 0 rfl) ?_
    refine lv_iload_n hx hb dX12_isPort_5 rfl (lv_at hl 1 rfl) ?_
    refine lv_iconst (v := 4) hx hb dX12_isPort_6 (by decide) ?_
    refine lv_idiv hx hb dX12_isPort_7 (by decide) ?_
    have hPc := hP.sub (ws' := [(m0, .inr (12, mM kd gw fa gM 0 0 0 0 0 0 0 0 th))]) [0] rfl
    have hDc := hD.sub (ws' := [(m0, .inr (12, mM kd gw fa gM 0 0 0 0 0 0 0 0 th))]) [0] (by decide) rfl
    have hKc := hK.sub (tys' := []) [] rfl
    have hFc := roF hS hA
    refine va_calli (va_runV (As := [.int (a0 / 4)]) (rest := []) ⟨hx, hb, hml, hown, hts⟩ (c_X12_isBox l dC dI s.heap.size m0 kd gw fa gM th (a0 / 4)) (cwV 1 hts (gV u_1415 u_1417 v_46 u_14 u_1418) rfl rfl rfl (by decide +kernel) ⟨Nat.le_of_ble_eq_true rfl, Nat.le_of_ble_eq_true rfl⟩) ⟨gP_blind, va_recv hKc hPc (ci := 12) (q0 := 0) rfl rfl, gP_call hPc hKc hDc hE⟩ rfl rfl hl.1 rfl (lv_room (Nat.le_of_ble_eq_true rfl)) dX12_isPort_8 ⟨(Nat.le_of_ble_eq_true rfl), (Nat.le_of_ble_eq_true rfl)⟩) hS (fun q _ h => hFc q h) hFc (fun r147 u9 t9 H146 locs ht hvm hw hB hz1 hk1 hS => ?_)
    have hP := roP hP hk1
    subst hw
    refine lv_if_eq (tgt := 56) hx hb dX12_isPort_11 (by decide) (fun _ => ?_) (fun h9 => absurd (by decide) h9)
    refine lv_iconst (v := 0) hx hb dX12_isPort_56 (by decide) ?_
    refine W.widen (k := 0) (n := 0) (Nat.le_of_ble_eq_true rfl) (Nat.le_of_ble_eq_true rfl) ?_
    exact W.zret (v := 0) hx hb hr (by decide) (fun t ht hW => ⟨⟨0, (), rfl, rfl, trivial⟩, hS.F ht⟩) hS.2.2 dX12_isPort_57
set_option maxHeartbeats 4000000 in
set_option maxRecDepth 100000 in
theorem c_X12_isKind (l : Launch) (dC : Nat → ClassId) (dI : Nat → Nat → Nat) (sz : Nat) (m0 : Nat) (kd : Nat) (gw : Nat) (fa : Nat) (gM : Nat → Nat) (th : Int32) (a0 : Int32) (a1 : Int32) : Met l yX12_isKind (Cond.code yX12_isKind cX12_isKind 3 (some .boolean) :: gU) ({ frames := 2, cells := 0, slots := 0, locals := 43 }) (gP dC dI sz [(m0, .inr (12, mM kd gw fa gM 0 0 0 0 0 0 0 0 th))] [] [.ref m0, .int a0, .int a1]) (va_Qi (fun (r : Int32) (_ : Unit) => r = 0) (fun _ _ => True) (va_A [] sz)) 0 0 (va_A [] sz) := by
  refine Met.ofW (cc := cX12_isKind) (maxL := 3) (ret := (some .boolean)) (by decide) rfl ?_
  intro p e s m args below meth c s₁ B hml hv
  obtain ⟨rfl, hsz, hP, hK, hD0, hE⟩ := hv
  have hx := B.exec
  have hb := B.bytes
  have hr := B.returns
  have hts0 := atoms_spec (ws := Cond.code yX12_isKind cX12_isKind 3 (some .boolean) :: gU) B.pre
  have hts : ∀ w ∈ gU, w.before _ s = true := fun w h => hts0 w (List.mem_cons_of_mem _ h)
  have hown : s.vm.findClass RX12 = some m.cls := findClass_of_methodNamed B.named
  have hlocks := B.notSynchronized
  subst hsz
  have hD := hD0
  generalize hAe : va_A [] s.heap.size = A at ⊢
  have hA : ∀ q : Nat, s.heap.size ≤ q → A q := fun q h => by rw [← hAe]; exact Or.inr h
  have hS : va_S A s.heap s.heap [] := va_S.rf
  have hP : va_P (dC, dI) vwCl [(m0, .inr (12, mM kd gw fa gM 0 0 0 0 0 0 0 0 th))] s.heap := hP
  have hl := lv_entry ([.ref m0, .int a0, .int a1]) (n := 3) (Nat.le_of_ble_eq_true rfl)
  rw [lg_entry_eq]
  generalize (lg_sl ([.ref m0, .int a0, .int a1]) ++ List.replicate (3 - (lg_sl ([.ref m0, .int a0, .int a1])).length) Slot.unset).toArray = ls at hl ⊢
  have hl : lv_has ls 3 [(0, .ref m0), (1, .int a0), (2, .int a1)] := hl
  refine lv_aload_n hx hb dX12_isKind_0 rfl (lv_at hl 0 rfl) ?_
  refine lv_iload_n hx hb dX12_isKind_1 rfl (lv_at hl 1 rfl) ?_
  have hPc := hP.sub (ws' := [(m0, .inr (12, mM kd gw fa gM 0 0 0 0 0 0 0 0 th))]) [0] rfl
  have hDc := hD.sub (ws' := [(m0, .inr (12, mM kd gw fa gM 0 0 0 0 0 0 0 0 th))]) [0] (by decide) rfl
  have hKc := hK.sub (tys' := []) [] rfl
  have hFc := roF hS hA
  refine va_calli (va_runV (As := [.int a0]) (rest := []) ⟨hx, hb, hml, hown, hts⟩ (c_X12_isBox l dC dI s.heap.size m0 kd gw fa gM th a0) (cwV 1 hts (gV u_1415 u_1417 v_46 u_14 u_1418) rfl rfl rfl (by decide +kernel) ⟨Nat.le_of_ble_eq_true rfl, Nat.le_of_ble_eq_true rfl⟩) ⟨gP_blind, va_recv hKc hPc (ci := 12) (q0 := 0) rfl rfl, gP_call hPc hKc hDc hE⟩ rfl rfl hl.1 rfl (lv_room (Nat.le_of_ble_eq_true rfl)) dX12_isKind_2 ⟨(Nat.le_of_ble_eq_true rfl), (Nat.le_of_ble_eq_true rfl)⟩) hS (fun q _ h => hFc q h) hFc (fun r149 u9 t9 H148 locs ht hvm hw hB hz1 hk1 hS => ?_)
  have hP := roP hP hk1
  subst hw
  refine lv_if_eq (tgt := 22) hx hb dX12_isKind_5 (by decide) (fun _ => ?_) (fun h9 => absurd (by decide) h9)
  refine lv_iconst (v := 0) hx hb dX12_isKind_22 (by decide) ?_
  refine W.widen (k := 0) (n := 0) (Nat.le_of_ble_eq_true rfl) (Nat.le_of_ble_eq_true rfl) ?_
  exact W.zret (v := 0) hx hb hr (by decide) (fun t ht hW => ⟨⟨0, (), rfl, rfl, trivial⟩, hS.F ht⟩) hS.2.2 dX12_isKind_23
set_option maxHeartbeats 4000000 in
set_option maxRecDepth 100000 in
theorem c_X12_isPacket (l : Launch) (dC : Nat → ClassId) (dI : Nat → Nat → Nat) (sz : Nat) (m0 : Nat) (kd : Nat) (gw : Nat) (fa : Nat) (gM : Nat → Nat) (th : Int32) (a0 : Int32) : Met l yX12_isPacket (Cond.code yX12_isPacket cX12_isPacket 2 (some .boolean) :: gU) ({ frames := 1, cells := 0, slots := 0, locals := 22 }) (gP dC dI sz [(m0, .inr (12, mM kd gw fa gM 0 0 0 0 0 0 0 0 th))] [] [.ref m0, .int a0]) (va_Qi (fun (r : Int32) (_ : Unit) => r = 0) (fun (_ : Unit) (t9 : State) => va_P (dC, dI) vwCl [(m0, .inr (12, mM kd gw fa gM 0 0 0 0 0 0 0 0 1))] t9.heap ∧ va_K (dC, dI) vwCl [] t9 ∧ va_D (va_A [(m0, .inr (12, mM kd gw fa gM 0 0 0 0 0 0 0 0 th))] sz) [(m0, .inr (12, mM kd gw fa gM 0 0 0 0 0 0 0 0 1))]) (va_A [(m0, .inr (12, mM kd gw fa gM 0 0 0 0 0 0 0 0 th))] sz)) 0 0 (va_A [(m0, .inr (12, mM kd gw fa gM 0 0 0 0 0 0 0 0 th))] sz) := by
  refine Met.ofW (cc := cX12_isPacket) (maxL := 2) (ret := (some .boolean)) (by decide) rfl ?_
  intro p e s m args below meth c s₁ B hml hv
  obtain ⟨rfl, hsz, hP, hK, hD0, hE⟩ := hv
  have hx := B.exec
  have hb := B.bytes
  have hr := B.returns
  have hts0 := atoms_spec (ws := Cond.code yX12_isPacket cX12_isPacket 2 (some .boolean) :: gU) B.pre
  have hts : ∀ w ∈ gU, w.before _ s = true := fun w h => hts0 w (List.mem_cons_of_mem _ h)
  have hown : s.vm.findClass RX12 = some m.cls := findClass_of_methodNamed B.named
  have hlocks := B.notSynchronized
  subst hsz
  have hD := hD0.self (sz := s.heap.size)
  generalize hAe : va_A [(m0, .inr (12, mM kd gw fa gM 0 0 0 0 0 0 0 0 th))] s.heap.size = A at hD ⊢
  have hA : ∀ q : Nat, s.heap.size ≤ q → A q := fun q h => by rw [← hAe]; exact Or.inr h
  have hS : va_S A s.heap s.heap [] := va_S.rf
  have hP : va_P (dC, dI) vwCl [(m0, .inr (12, mM kd gw fa gM 0 0 0 0 0 0 0 0 th))] s.heap := hP
  have hl := lv_entry ([.ref m0, .int a0]) (n := 2) (Nat.le_of_ble_eq_true rfl)
  rw [lg_entry_eq]
  generalize (lg_sl ([.ref m0, .int a0]) ++ List.replicate (2 - (lg_sl ([.ref m0, .int a0])).length) Slot.unset).toArray = ls at hl ⊢
  have hl : lv_has ls 2 [(0, .ref m0), (1, .int a0)] := hl
  refine lv_aload_n hx hb dX12_isPacket_0 rfl (lv_at hl 0 rfl) ?_
  refine lv_iload_n hx hb dX12_isPacket_1 rfl (lv_at hl 1 rfl) ?_
  refine lv_iconst (v := 0) hx hb dX12_isPacket_2 (by decide) ?_
  refine lv_aload_n hx hb dX12_isPacket_3 rfl (lv_at hl 0 rfl) ?_
  refine va_get (D := (dC, dI)) (ci := 12) (v := .int 0) (C := RX12) (T := TX12) (N := 47) hx hb hts gX12 hown hK hP 0 rfl rfl 37 (by decide) (hts _ u_1287) (fun _ h9 => h9) rfl dX12_isPacket_4 ?_
  refine lv_iconst (v := 1) hx hb dX12_isPacket_7 (by decide) ?_
  refine lv_isub hx hb dX12_isPacket_8 ?_
  refine lv_topi (fun z150 ez150 => ?_)
  obtain rfl : z150 = (-1) := ez150.trans (by decide)
  have hPc := hP.sub (ws' := []) [] rfl
  have hDc := hD.sub (ws' := []) [] (by decide) rfl
  have hKc := hK.sub (tys' := []) [] rfl
  have hFc := roF hS hA
  refine va_calli (va_runS (As := [.int a0, .int 0, .int (-1)]) (rest := [.ref m0]) ⟨hx, hb, hml, hown, hts⟩ (c_X12_isIn l dC dI s.heap.size a0 0 (-1)) (va_cwS 3 hts (gS u_1400 u_1401 u_14 u_1402) rfl rfl rfl (by decide +kernel) ⟨Nat.le_of_ble_eq_true rfl, Nat.le_of_ble_eq_true rfl⟩) ⟨gP_blind, gP_call hPc hKc hDc hE⟩ rfl rfl hl.1 rfl (lv_room (Nat.le_of_ble_eq_true rfl)) dX12_isPacket_9 ⟨(Nat.le_of_ble_eq_true rfl), (Nat.le_of_ble_eq_true rfl)⟩) hS (fun q _ h => hFc q h) hFc (fun r152 u9 t9 H151 locs ht hvm hw hB hz1 hk1 hS => ?_)
  have hP := roP hP hk1
  subst hw
  rw [gIs_no]
  refine lv_if_eq (tgt := 19) hx hb dX12_isPacket_12 (by decide) (fun _ => ?_) (fun h9 => absurd (by decide) h9)
  refine lv_iconst (v := 1) hx hb dX12_isPacket_19 (by decide) ?_
  have hPc := hP.sub (ws' := [(m0, .inr (12, mM kd gw fa gM 0 0 0 0 0 0 0 0 th))]) [0] rfl
  have hDc := hD.sub (ws' := [(m0, .inr (12, mM kd gw fa gM 0 0 0 0 0 0 0 0 th))]) [0] (by decide) rfl
  have hKc := hK.sub (tys' := []) [] rfl
  have hFc := va_free (wc := [(m0, .inr (12, mM kd gw fa gM 0 0 0 0 0 0 0 0 th))]) hD hS hA [0] rfl
  refine va_calli (va_runV (As := [.int 1]) (rest := []) ⟨hx, hb, hml, hown, hts⟩ (c_X12_can l dC dI H151.size m0 kd gw fa gM th 1) (cwV 1 hts (gV u_1403 u_1405 v_44 u_14 u_1406) rfl rfl rfl (by decide +kernel) ⟨Nat.le_of_ble_eq_true rfl, Nat.le_of_ble_eq_true rfl⟩) ⟨gP_blind, va_recv hKc hPc (ci := 12) (q0 := 0) rfl rfl, gP_call hPc hKc hDc hE⟩ rfl rfl hl.1 rfl (lv_room (Nat.le_of_ble_eq_true rfl)) dX12_isPacket_20 ⟨(Nat.le_of_ble_eq_true rfl), (Nat.le_of_ble_eq_true rfl)⟩) hS (fun q _ h => hFc q h) hFc (fun r154 u9 t9 H153 locs ht hvm hw hB hz1 hk1 hS => ?_)
  obtain ⟨hP1, hK1, hD1⟩ := hB
  rw [ht] at hP1
  have hK1 := va_K.moved hvm.symm hK1
  obtain ⟨hP, hD⟩ := va_join (wr := []) (w1 := [(m0, .inr (12, mM kd gw fa gM 0 0 0 0 0 0 0 0 1))]) hP hD [0] [] rfl rfl (by decide) (by decide) hk1 hFc hP1 hD1
  have hK := (hK.sub (tys' := []) [] rfl).app hK1
  have hK : va_K (dC, dI) vwCl [] s := hK
  have hP : va_P (dC, dI) vwCl [(m0, .inr (12, mM kd gw fa gM 0 0 0 0 0 0 0 0 1))] H153 := hP
  have hD : va_D A [(m0, .inr (12, mM kd gw fa gM 0 0 0 0 0 0 0 0 1))] := hD
  subst hw
  rw [show gCan 1 = 0 from by decide]
  refine W.widen (k := 0) (n := 0) (Nat.le_of_ble_eq_true rfl) (Nat.le_of_ble_eq_true rfl) ?_
  exact W.zret (v := 0) hx hb hr (by decide) (fun t ht hW => ⟨⟨0, (), rfl, rfl, ⟨by rw [ht]; exact hP, va_K.moved hW.alike hK, hD⟩⟩, hS.F ht⟩) hS.2.2 dX12_isPacket_23
set_option maxHeartbeats 4000000 in
set_option maxRecDepth 100000 in
theorem c_X12_isSent (l : Launch) (dC : Nat → ClassId) (dI : Nat → Nat → Nat) (sz : Nat) (m0 : Nat) (kd : Nat) (gw : Nat) (fa : Nat) (gM : Nat → Nat) (th : Int32) (a0 : Int32) (a1 : Int32) (a2 : Int32) : Met l yX12_isSent (Cond.code yX12_isSent cX12_isSent 4 (some .boolean) :: gU) ({ frames := 2, cells := 0, slots := 0, locals := 43 }) (gP dC dI sz [(m0, .inr (12, mM kd gw fa gM 0 0 0 0 0 0 0 0 th))] [] [.ref m0, .int a0, .int a1, .int a2]) (va_Qi (fun (r : Int32) (_ : Unit) => r = 0) (fun (_ : Unit) (t9 : State) => va_P (dC, dI) vwCl [(m0, .inr (12, mM kd gw fa gM 0 0 0 0 0 0 0 0 1))] t9.heap ∧ va_K (dC, dI) vwCl [] t9 ∧ va_D (va_A [(m0, .inr (12, mM kd gw fa gM 0 0 0 0 0 0 0 0 th))] sz) [(m0, .inr (12, mM kd gw fa gM 0 0 0 0 0 0 0 0 1))]) (va_A [(m0, .inr (12, mM kd gw fa gM 0 0 0 0 0 0 0 0 th))] sz)) 0 0 (va_A [(m0, .inr (12, mM kd gw fa gM 0 0 0 0 0 0 0 0 th))] sz) := by
  refine Met.ofW (cc := cX12_isSent) (maxL := 4) (ret := (some .boolean)) (by decide) rfl ?_
  intro p e s m args below meth c s₁ B hml hv
  obtain ⟨rfl, hsz, hP, hK, hD0, hE⟩ := hv
  have hx := B.exec
  have hb := B.bytes
  have hr := B.returns
  have hts0 := atoms_spec (ws := Cond.code yX12_isSent cX12_isSent 4 (some .boolean) :: gU) B.pre
  have hts : ∀ w ∈ gU, w.before _ s = true := fun w h => hts0 w (List.mem_cons_of_mem _ h)
  have hown : s.vm.findClass RX12 = some m.cls := findClass_of_methodNamed B.named
  have hlocks := B.notSynchronized
  subst hsz
  have hD := hD0.self (sz := s.heap.size)
  generalize hAe : va_A [(m0, .inr (12, mM kd gw fa gM 0 0 0 0 0 0 0 0 th))] s.heap.size = A at hD ⊢
  have hA : ∀ q : Nat, s.heap.size ≤ q → A q := fun q h => by rw [← hAe]; exact Or.inr h
  have hS : va_S A s.heap s.heap [] := va_S.rf
  have hP : va_P (dC, dI) vwCl [(m0, .inr (12, mM kd gw fa gM 0 0 0 0 0 0 0 0 th))] s.heap := hP
  have hl := lv_entry ([.ref m0, .int a0, .int a1, .int a2]) (n := 4) (Nat.le_of_ble_eq_true rfl)
  rw [lg_entry_eq]
  generalize (lg_sl ([.ref m0, .int a0, .int a1, .int a2]) ++ List.replicate (4 - (lg_sl ([.ref m0, .int a0, .int a1, .int a2])).length) Slot.unset).toArray = ls at hl ⊢
  have hl : lv_has ls 4 [(0, .ref m0), (1, .int a0), (2, .int a1), (3, .int a2)] := hl
  refine lv_aload_n hx hb dX12_isSent_0 rfl (lv_at hl 0 rfl) ?_
  refine lv_aload_n hx hb dX12_isSent_1 rfl (lv_at hl 0 rfl) ?_
  refine lv_iload_n hx hb dX12_isSent_2 rfl (lv_at hl 1 rfl) ?_
  have hPc := hP.sub (ws' := [(m0, .inr (12, mM kd gw fa gM 0 0 0 0 0 0 0 0 th))]) [0] rfl
  have hDc := hD.sub (ws' := [(m0, .inr (12, mM kd gw fa gM 0 0 0 0 0 0 0 0 th))]) [0] (by decide) rfl
  have hKc := hK.sub (tys' := []) [] rfl
  have hFc := roF hS hA
  refine va_calli (va_runV (As := [.int a0]) (rest := [.ref m0]) ⟨hx, hb, hml, hown, hts⟩ (c_X12_isBox l dC dI s.heap.size m0 kd gw fa gM th a0) (cwV 1 hts (gV u_1415 u_1417 v_46 u_14 u_1418) rfl rfl rfl (by decide +kernel) ⟨Nat.le_of_ble_eq_true rfl, Nat.le_of_ble_eq_true rfl⟩) ⟨gP_blind, va_recv hKc hPc (ci := 12) (q0 := 0) rfl rfl, gP_call hPc hKc hDc hE⟩ rfl rfl hl.1 rfl (lv_room (Nat.le_of_ble_eq_true rfl)) dX12_isSent_3 ⟨(Nat.le_of_ble_eq_true rfl), (Nat.le_of_ble_eq_true rfl)⟩) hS (fun q _ h => hFc q h) hFc (fun r156 u9 t9 H155 locs ht hvm hw hB hz1 hk1 hS => ?_)
  have hP := roP hP hk1
  subst hw
  refine lv_if_ne (tgt := 13) hx hb dX12_isSent_6 (by decide) (fun h9 => absurd (by decide) h9) (fun _ => ?_)
  refine lv_iconst (v := 1) hx hb dX12_isSent_9 (by decide) ?_
  refine lv_goto (tgt := 43) hx hb dX12_isSent_10 (by decide) ?_
  have hPc := hP.sub (ws' := [(m0, .inr (12, mM kd gw fa gM 0 0 0 0 0 0 0 0 th))]) [0] rfl
  have hDc := hD.sub (ws' := [(m0, .inr (12, mM kd gw fa gM 0 0 0 0 0 0 0 0 th))]) [0] (by decide) rfl
  have hKc := hK.sub (tys' := []) [] rfl
  have hFc := va_free (wc := [(m0, .inr (12, mM kd gw fa gM 0 0 0 0 0 0 0 0 th))]) hD hS hA [0] rfl
  refine va_calli (va_runV (As := [.int 1]) (rest := []) ⟨hx, hb, hml, hown, hts⟩ (c_X12_can l dC dI H155.size m0 kd gw fa gM th 1) (cwV 1 hts (gV u_1403 u_1405 v_44 u_14 u_1406) rfl rfl rfl (by decide +kernel) ⟨Nat.le_of_ble_eq_true rfl, Nat.le_of_ble_eq_true rfl⟩) ⟨gP_blind, va_recv hKc hPc (ci := 12) (q0 := 0) rfl rfl, gP_call hPc hKc hDc hE⟩ rfl rfl hl.1 rfl (lv_room (Nat.le_of_ble_eq_true rfl)) dX12_isSent_43 ⟨(Nat.le_of_ble_eq_true rfl), (Nat.le_of_ble_eq_true rfl)⟩) hS (fun q _ h => hFc q h) hFc (fun r158 u9 t9 H157 locs ht hvm hw hB hz1 hk1 hS => ?_)
  obtain ⟨hP1, hK1, hD1⟩ := hB
  rw [ht] at hP1
  have hK1 := va_K.moved hvm.symm hK1
  obtain ⟨hP, hD⟩ := va_join (wr := []) (w1 := [(m0, .inr (12, mM kd gw fa gM 0 0 0 0 0 0 0 0 1))]) hP hD [0] [] rfl rfl (by decide) (by decide) hk1 hFc hP1 hD1
  have hK := (hK.sub (tys' := []) [] rfl).app hK1
  have hK : va_K (dC, dI) vwCl [] s := hK
  have hP : va_P (dC, dI) vwCl [(m0, .inr (12, mM kd gw fa gM 0 0 0 0 0 0 0 0 1))] H157 := hP
  have hD : va_D A [(m0, .inr (12, mM kd gw fa gM 0 0 0 0 0 0 0 0 1))] := hD
  subst hw
  rw [show gCan 1 = 0 from by decide]
  refine W.widen (k := 0) (n := 0) (Nat.le_of_ble_eq_true rfl) (Nat.le_of_ble_eq_true rfl) ?_
  exact W.zret (v := 0) hx hb hr (by decide) (fun t ht hW => ⟨⟨0, (), rfl, rfl, ⟨by rw [ht]; exact hP, va_K.moved hW.alike hK, hD⟩⟩, hS.F ht⟩) hS.2.2 dX12_isSent_46
set_option maxHeartbeats 4000000 in
set_option maxRecDepth 100000 in
theorem c_X12_reaches (l : Launch) (dC : Nat → ClassId) (dI : Nat → Nat → Nat) (sz : Nat) (m0 : Nat) (kd : Nat) (gw : Nat) (fa : Nat) (gM : Nat → Nat) (th : Int32) (a0 : Int32) (a1 : Int32) : Met l yX12_reaches (Cond.code yX12_reaches cX12_reaches 5 (some .int) :: gU) ({ frames := 2, cells := 0, slots := 0, locals := 43 }) (gP dC dI sz [(m0, .inr (12, mM kd gw fa gM 0 0 0 0 0 0 0 0 th))] [] [.ref m0, .int a0, .int a1]) (va_Qi (fun (r : Int32) (_ : Unit) => r = 0) (fun (_ : Unit) (t9 : State) => va_P (dC, dI) vwCl [(m0, .inr (12, mM kd gw fa gM 0 0 0 0 0 0 0 0 1))] t9.heap ∧ va_K (dC, dI) vwCl [] t9 ∧ va_D (va_A [(m0, .inr (12, mM kd gw fa gM 0 0 0 0 0 0 0 0 th))] sz) [(m0, .inr (12, mM kd gw fa gM 0 0 0 0 0 0 0 0 1))]) (va_A [(m0, .inr (12, mM kd gw fa gM 0 0 0 0 0 0 0 0 th))] sz)) 0 0 (va_A [(m0, .inr (12, mM kd gw fa gM 0 0 0 0 0 0 0 0 th))] sz) := by
  refine Met.ofW (cc := cX12_reaches) (maxL := 5) (ret := (some .int)) (by decide) rfl ?_
  intro p e s m args below meth c s₁ B hml hv
  obtain ⟨rfl, hsz, hP, hK, hD0, hE⟩ := hv
  have hx := B.exec
  have hb := B.bytes
  have hr := B.returns
  have hts0 := atoms_spec (ws := Cond.code yX12_reaches cX12_reaches 5 (some .int) :: gU) B.pre
  have hts : ∀ w ∈ gU, w.before _ s = true := fun w h => hts0 w (List.mem_cons_of_mem _ h)
  have hown : s.vm.findClass RX12 = some m.cls := findClass_of_methodNamed B.named
  have hlocks := B.notSynchronized
  subst hsz
  have hD := hD0.self (sz := s.heap.size)
  generalize hAe : va_A [(m0, .inr (12, mM kd gw fa gM 0 0 0 0 0 0 0 0 th))] s.heap.size = A at hD ⊢
  have hA : ∀ q : Nat, s.heap.size ≤ q → A q := fun q h => by rw [← hAe]; exact Or.inr h
  have hS : va_S A s.heap s.heap [] := va_S.rf
  have hP : va_P (dC, dI) vwCl [(m0, .inr (12, mM kd gw fa gM 0 0 0 0 0 0 0 0 th))] s.heap := hP
  have hl := lv_entry ([.ref m0, .int a0, .int a1]) (n := 5) (Nat.le_of_ble_eq_true rfl)
  rw [lg_entry_eq]
  generalize (lg_sl ([.ref m0, .int a0, .int a1]) ++ List.replicate (5 - (lg_sl ([.ref m0, .int a0, .int a1])).length) Slot.unset).toArray = ls at hl ⊢
  have hl : lv_has ls 5 [(0, .ref m0), (1, .int a0), (2, .int a1)] := hl
  refine lv_aload_n hx hb dX12_reaches_0 rfl (lv_at hl 0 rfl) ?_
  refine lv_aload_n hx hb dX12_reaches_1 rfl (lv_at hl 0 rfl) ?_
  refine lv_iload_n hx hb dX12_reaches_2 rfl (lv_at hl 1 rfl) ?_
  have hPc := hP.sub (ws' := [(m0, .inr (12, mM kd gw fa gM 0 0 0 0 0 0 0 0 th))]) [0] rfl
  have hDc := hD.sub (ws' := [(m0, .inr (12, mM kd gw fa gM 0 0 0 0 0 0 0 0 th))]) [0] (by decide) rfl
  have hKc := hK.sub (tys' := []) [] rfl
  have hFc := roF hS hA
  refine va_calli (va_runV (As := [.int a0]) (rest := [.ref m0]) ⟨hx, hb, hml, hown, hts⟩ (c_X12_isBox l dC dI s.heap.size m0 kd gw fa gM th a0) (cwV 1 hts (gV u_1415 u_1417 v_46 u_14 u_1418) rfl rfl rfl (by decide +kernel) ⟨Nat.le_of_ble_eq_true rfl, Nat.le_of_ble_eq_true rfl⟩) ⟨gP_blind, va_recv hKc hPc (ci := 12) (q0 := 0) rfl rfl, gP_call hPc hKc hDc hE⟩ rfl rfl hl.1 rfl (lv_room (Nat.le_of_ble_eq_true rfl)) dX12_reaches_3 ⟨(Nat.le_of_ble_eq_true rfl), (Nat.le_of_ble_eq_true rfl)⟩) hS (fun q _ h => hFc q h) hFc (fun r160 u9 t9 H159 locs ht hvm hw hB hz1 hk1 hS => ?_)
  have hP := roP hP hk1
  subst hw
  refine lv_if_eq (tgt := 17) hx hb dX12_reaches_6 (by decide) (fun _ => ?_) (fun h9 => absurd (by decide) h9)
  refine lv_iconst (v := 1) hx hb dX12_reaches_17 (by decide) ?_
  refine lv_goto (tgt := 35) hx hb dX12_reaches_18 (by decide) ?_
  have hPc := hP.sub (ws' := [(m0, .inr (12, mM kd gw fa gM 0 0 0 0 0 0 0 0 th))]) [0] rfl
  have hDc := hD.sub (ws' := [(m0, .inr (12, mM kd gw fa gM 0 0 0 0 0 0 0 0 th))]) [0] (by decide) rfl
  have hKc := hK.sub (tys' := []) [] rfl
  have hFc := va_free (wc := [(m0, .inr (12, mM kd gw fa gM 0 0 0 0 0 0 0 0 th))]) hD hS hA [0] rfl
  refine va_calli (va_runV (As := [.int 1]) (rest := []) ⟨hx, hb, hml, hown, hts⟩ (c_X12_can l dC dI H159.size m0 kd gw fa gM th 1) (cwV 1 hts (gV u_1403 u_1405 v_44 u_14 u_1406) rfl rfl rfl (by decide +kernel) ⟨Nat.le_of_ble_eq_true rfl, Nat.le_of_ble_eq_true rfl⟩) ⟨gP_blind, va_recv hKc hPc (ci := 12) (q0 := 0) rfl rfl, gP_call hPc hKc hDc hE⟩ rfl rfl hl.1 rfl (lv_room (Nat.le_of_ble_eq_true rfl)) dX12_reaches_35 ⟨(Nat.le_of_ble_eq_true rfl), (Nat.le_of_ble_eq_true rfl)⟩) hS (fun q _ h => hFc q h) hFc (fun r162 u9 t9 H161 locs ht hvm hw hB hz1 hk1 hS => ?_)
  obtain ⟨hP1, hK1, hD1⟩ := hB
  rw [ht] at hP1
  have hK1 := va_K.moved hvm.symm hK1
  obtain ⟨hP, hD⟩ := va_join (wr := []) (w1 := [(m0, .inr (12, mM kd gw fa gM 0 0 0 0 0 0 0 0 1))]) hP hD [0] [] rfl rfl (by decide) (by decide) hk1 hFc hP1 hD1
  have hK := (hK.sub (tys' := []) [] rfl).app hK1
  have hK : va_K (dC, dI) vwCl [] s := hK
  have hP : va_P (dC, dI) vwCl [(m0, .inr (12, mM kd gw fa gM 0 0 0 0 0 0 0 0 1))] H161 := hP
  have hD : va_D A [(m0, .inr (12, mM kd gw fa gM 0 0 0 0 0 0 0 0 1))] := hD
  subst hw
  rw [show gCan 1 = 0 from by decide]
  refine lv_if_ne (tgt := 43) hx hb dX12_reaches_38 (by decide) (fun h9 => absurd (by decide) h9) (fun _ => ?_)
  refine lv_iconst (v := 0) hx hb dX12_reaches_41 (by decide) ?_
  refine W.widen (k := 0) (n := 0) (Nat.le_of_ble_eq_true rfl) (Nat.le_of_ble_eq_true rfl) ?_
  exact W.iret (v := 0) hx hb hr (fun t ht hW => ⟨⟨0, (), rfl, rfl, ⟨by rw [ht]; exact hP, va_K.moved hW.alike hK, hD⟩⟩, hS.F ht⟩) hS.2.2 dX12_reaches_42
set_option maxHeartbeats 4000000 in
set_option maxRecDepth 100000 in
theorem c_X12_cable (l : Launch) (dC : Nat → ClassId) (dI : Nat → Nat → Nat) (sz : Nat) (m0 : Nat) (kd : Nat) (gw : Nat) (fa : Nat) (gM : Nat → Nat) (th : Int32) (a0 : Int32) (a1 : Int32) : Met l yX12_cable (Cond.code yX12_cable cX12_cable 4 (some .int) :: gU) ({ frames := 3, cells := 0, slots := 0, locals := 64 }) (gP dC dI sz [(m0, .inr (12, mM kd gw fa gM 0 0 0 0 0 0 0 0 th))] [] [.ref m0, .int a0, .int a1]) (va_Qi (fun (r : Int32) (_ : Unit) => r = 0) (fun (_ : Unit) (t9 : State) => va_P (dC, dI) vwCl [(m0, .inr (12, mM kd gw fa gM 0 0 0 0 0 0 0 0 1))] t9.heap ∧ va_K (dC, dI) vwCl [] t9 ∧ va_D (va_A [(m0, .inr (12, mM kd gw fa gM 0 0 0 0 0 0 0 0 th))] sz) [(m0, .inr (12, mM kd gw fa gM 0 0 0 0 0 0 0 0 1))]) (va_A [(m0, .inr (12, mM kd gw fa gM 0 0 0 0 0 0 0 0 th))] sz)) 0 0 (va_A [(m0, .inr (12, mM kd gw fa gM 0 0 0 0 0 0 0 0 th))] sz) := by
  refine Met.ofW (cc := cX12_cable) (maxL := 4) (ret := (some .int)) (by decide) rfl ?_
  intro p e s m args below meth c s₁ B hml hv
  obtain ⟨rfl, hsz, hP, hK, hD0, hE⟩ := hv
  have hx := B.exec
  have hb := B.bytes
  have hr := B.returns
  have hts0 := atoms_spec (ws := Cond.code yX12_cable cX12_cable 4 (some .int) :: gU) B.pre
  have hts : ∀ w ∈ gU, w.before _ s = true := fun w h => hts0 w (List.mem_cons_of_mem _ h)
  have hown : s.vm.findClass RX12 = some m.cls := findClass_of_methodNamed B.named
  have hlocks := B.notSynchronized
  subst hsz
  have hD := hD0.self (sz := s.heap.size)
  generalize hAe : va_A [(m0, .inr (12, mM kd gw fa gM 0 0 0 0 0 0 0 0 th))] s.heap.size = A at hD ⊢
  have hA : ∀ q : Nat, s.heap.size ≤ q → A q := fun q h => by rw [← hAe]; exact Or.inr h
  have hS : va_S A s.heap s.heap [] := va_S.rf
  have hP : va_P (dC, dI) vwCl [(m0, .inr (12, mM kd gw fa gM 0 0 0 0 0 0 0 0 th))] s.heap := hP
  have hl := lv_entry ([.ref m0, .int a0, .int a1]) (n := 4) (Nat.le_of_ble_eq_true rfl)
  rw [lg_entry_eq]
  generalize (lg_sl ([.ref m0, .int a0, .int a1]) ++ List.replicate (4 - (lg_sl ([.ref m0, .int a0, .int a1])).length) Slot.unset).toArray = ls at hl ⊢
  have hl : lv_has ls 4 [(0, .ref m0), (1, .int a0), (2, .int a1)] := hl
  refine lv_aload_n hx hb dX12_cable_0 rfl (lv_at hl 0 rfl) ?_
  refine lv_iload_n hx hb dX12_cable_1 rfl (lv_at hl 1 rfl) ?_
  have hPc := hP.sub (ws' := [(m0, .inr (12, mM kd gw fa gM 0 0 0 0 0 0 0 0 th))]) [0] rfl
  have hDc := hD.sub (ws' := [(m0, .inr (12, mM kd gw fa gM 0 0 0 0 0 0 0 0 th))]) [0] (by decide) rfl
  have hKc := hK.sub (tys' := []) [] rfl
  have hFc := roF hS hA
  refine va_calli (va_runV (As := [.int a0]) (rest := []) ⟨hx, hb, hml, hown, hts⟩ (c_X12_isPort l dC dI s.heap.size m0 kd gw fa gM th a0) (cwV 1 hts (gV u_1411 u_1413 v_45 u_14 u_1414) rfl rfl rfl (by decide +kernel) ⟨Nat.le_of_ble_eq_true rfl, Nat.le_of_ble_eq_true rfl⟩) ⟨gP_blind, va_recv hKc hPc (ci := 12) (q0 := 0) rfl rfl, gP_call hPc hKc hDc hE⟩ rfl rfl hl.1 rfl (lv_room (Nat.le_of_ble_eq_true rfl)) dX12_cable_2 ⟨(Nat.le_of_ble_eq_true rfl), (Nat.le_of_ble_eq_true rfl)⟩) hS (fun q _ h => hFc q h) hFc (fun r164 u9 t9 H163 locs ht hvm hw hB hz1 hk1 hS => ?_)
  have hP := roP hP hk1
  subst hw
  refine lv_if_eq (tgt := 20) hx hb dX12_cable_5 (by decide) (fun _ => ?_) (fun h9 => absurd (by decide) h9)
  refine lv_iconst (v := 0) hx hb dX12_cable_20 (by decide) ?_
  refine lv_istore_n (lv' := [(3, .int 0), (0, .ref m0), (1, .int a0), (2, .int a1)]) hx hb dX12_cable_21 rfl hl (by decide) rfl (fun ls hl => ?_)
  refine lv_aload_n hx hb dX12_cable_22 rfl (lv_at hl 1 rfl) ?_
  refine lv_iload_n hx hb dX12_cable_23 rfl (lv_at hl 0 rfl) ?_
  refine lv_if_ne (tgt := 31) hx hb dX12_cable_24 (by decide) (fun h9 => absurd (by decide) h9) (fun _ => ?_)
  refine lv_iconst (v := 1) hx hb dX12_cable_27 (by decide) ?_
  refine lv_goto (tgt := 78) hx hb dX12_cable_28 (by decide) ?_
  have hPc := hP.sub (ws' := [(m0, .inr (12, mM kd gw fa gM 0 0 0 0 0 0 0 0 th))]) [0] rfl
  have hDc := hD.sub (ws' := [(m0, .inr (12, mM kd gw fa gM 0 0 0 0 0 0 0 0 th))]) [0] (by decide) rfl
  have hKc := hK.sub (tys' := []) [] rfl
  have hFc := va_free (wc := [(m0, .inr (12, mM kd gw fa gM 0 0 0 0 0 0 0 0 th))]) hD hS hA [0] rfl
  refine va_calli (va_runV (As := [.int 1]) (rest := []) ⟨hx, hb, hml, hown, hts⟩ (c_X12_can l dC dI H163.size m0 kd gw fa gM th 1) (cwV 1 hts (gV u_1403 u_1405 v_44 u_14 u_1406) rfl rfl rfl (by decide +kernel) ⟨Nat.le_of_ble_eq_true rfl, Nat.le_of_ble_eq_true rfl⟩) ⟨gP_blind, va_recv hKc hPc (ci := 12) (q0 := 0) rfl rfl, gP_call hPc hKc hDc hE⟩ rfl rfl hl.1 rfl (lv_room (Nat.le_of_ble_eq_true rfl)) dX12_cable_78 ⟨(Nat.le_of_ble_eq_true rfl), (Nat.le_of_ble_eq_true rfl)⟩) hS (fun q _ h => hFc q h) hFc (fun r166 u9 t9 H165 locs ht hvm hw hB hz1 hk1 hS => ?_)
  obtain ⟨hP1, hK1, hD1⟩ := hB
  rw [ht] at hP1
  have hK1 := va_K.moved hvm.symm hK1
  obtain ⟨hP, hD⟩ := va_join (wr := []) (w1 := [(m0, .inr (12, mM kd gw fa gM 0 0 0 0 0 0 0 0 1))]) hP hD [0] [] rfl rfl (by decide) (by decide) hk1 hFc hP1 hD1
  have hK := (hK.sub (tys' := []) [] rfl).app hK1
  have hK : va_K (dC, dI) vwCl [] s := hK
  have hP : va_P (dC, dI) vwCl [(m0, .inr (12, mM kd gw fa gM 0 0 0 0 0 0 0 0 1))] H165 := hP
  have hD : va_D A [(m0, .inr (12, mM kd gw fa gM 0 0 0 0 0 0 0 0 1))] := hD
  subst hw
  rw [show gCan 1 = 0 from by decide]
  refine lv_if_ne (tgt := 86) hx hb dX12_cable_81 (by decide) (fun h9 => absurd (by decide) h9) (fun _ => ?_)
  refine lv_iconst (v := 0) hx hb dX12_cable_84 (by decide) ?_
  refine W.widen (k := 0) (n := 0) (Nat.le_of_ble_eq_true rfl) (Nat.le_of_ble_eq_true rfl) ?_
  exact W.iret (v := 0) hx hb hr (fun t ht hW => ⟨⟨0, (), rfl, rfl, ⟨by rw [ht]; exact hP, va_K.moved hW.alike hK, hD⟩⟩, hS.F ht⟩) hS.2.2 dX12_cable_85
set_option maxHeartbeats 4000000 in
set_option maxRecDepth 100000 in
theorem c_X12_turn (l : Launch) (dC : Nat → ClassId) (dI : Nat → Nat → Nat) (sz : Nat) (m0 : Nat) (kd : Nat) (gw : Nat) (fa : Nat) (gM : Nat → Nat) (th : Int32) (a0 : Int32) : Met l yX12_turn (Cond.code yX12_turn cX12_turn 2 (some .boolean) :: gU) ({ frames := 2, cells := 0, slots := 0, locals := 43 }) (gP dC dI sz [(m0, .inr (12, mM kd gw fa gM 0 0 0 0 0 0 0 0 th))] [] [.ref m0, .int a0]) (va_Qi (fun (r : Int32) (_ : Unit) => r = 0) (fun (_ : Unit) (t9 : State) => va_P (dC, dI) vwCl [(m0, .inr (12, mM kd gw fa gM 0 0 0 0 0 0 0 0 1))] t9.heap ∧ va_K (dC, dI) vwCl [] t9 ∧ va_D (va_A [(m0, .inr (12, mM kd gw fa gM 0 0 0 0 0 0 0 0 th))] sz) [(m0, .inr (12, mM kd gw fa gM 0 0 0 0 0 0 0 0 1))]) (va_A [(m0, .inr (12, mM kd gw fa gM 0 0 0 0 0 0 0 0 th))] sz)) 0 0 (va_A [(m0, .inr (12, mM kd gw fa gM 0 0 0 0 0 0 0 0 th))] sz) := by
  refine Met.ofW (cc := cX12_turn) (maxL := 2) (ret := (some .boolean)) (by decide) rfl ?_
  intro p e s m args below meth c s₁ B hml hv
  obtain ⟨rfl, hsz, hP, hK, hD0, hE⟩ := hv
  have hx := B.exec
  have hb := B.bytes
  have hr := B.returns
  have hts0 := atoms_spec (ws := Cond.code yX12_turn cX12_turn 2 (some .boolean) :: gU) B.pre
  have hts : ∀ w ∈ gU, w.before _ s = true := fun w h => hts0 w (List.mem_cons_of_mem _ h)
  have hown : s.vm.findClass RX12 = some m.cls := findClass_of_methodNamed B.named
  have hlocks := B.notSynchronized
  subst hsz
  have hD := hD0.self (sz := s.heap.size)
  generalize hAe : va_A [(m0, .inr (12, mM kd gw fa gM 0 0 0 0 0 0 0 0 th))] s.heap.size = A at hD ⊢
  have hA : ∀ q : Nat, s.heap.size ≤ q → A q := fun q h => by rw [← hAe]; exact Or.inr h
  have hS : va_S A s.heap s.heap [] := va_S.rf
  have hP : va_P (dC, dI) vwCl [(m0, .inr (12, mM kd gw fa gM 0 0 0 0 0 0 0 0 th))] s.heap := hP
  have hl := lv_entry ([.ref m0, .int a0]) (n := 2) (Nat.le_of_ble_eq_true rfl)
  rw [lg_entry_eq]
  generalize (lg_sl ([.ref m0, .int a0]) ++ List.replicate (2 - (lg_sl ([.ref m0, .int a0])).length) Slot.unset).toArray = ls at hl ⊢
  have hl : lv_has ls 2 [(0, .ref m0), (1, .int a0)] := hl
  refine lv_aload_n hx hb dX12_turn_0 rfl (lv_at hl 0 rfl) ?_
  refine lv_aload_n hx hb dX12_turn_1 rfl (lv_at hl 0 rfl) ?_
  refine lv_iload_n hx hb dX12_turn_2 rfl (lv_at hl 1 rfl) ?_
  have hPc := hP.sub (ws' := [(m0, .inr (12, mM kd gw fa gM 0 0 0 0 0 0 0 0 th))]) [0] rfl
  have hDc := hD.sub (ws' := [(m0, .inr (12, mM kd gw fa gM 0 0 0 0 0 0 0 0 th))]) [0] (by decide) rfl
  have hKc := hK.sub (tys' := []) [] rfl
  have hFc := roF hS hA
  refine va_calli (va_runV (As := [.int a0]) (rest := [.ref m0]) ⟨hx, hb, hml, hown, hts⟩ (c_X12_isCable l dC dI s.heap.size m0 kd gw fa gM th a0) (cwV 1 hts (gV u_1423 u_1425 v_47 u_14 u_1426) rfl rfl rfl (by decide +kernel) ⟨Nat.le_of_ble_eq_true rfl, Nat.le_of_ble_eq_true rfl⟩) ⟨gP_blind, va_recv hKc hPc (ci := 12) (q0 := 0) rfl rfl, gP_call hPc hKc hDc hE⟩ rfl rfl hl.1 rfl (lv_room (Nat.le_of_ble_eq_true rfl)) dX12_turn_3 ⟨(Nat.le_of_ble_eq_true rfl), (Nat.le_of_ble_eq_true rfl)⟩) hS (fun q _ h => hFc q h) hFc (fun r168 u9 t9 H167 locs ht hvm hw hB hz1 hk1 hS => ?_)
  have hP := roP hP hk1
  subst hw
  refine lv_if_eq (tgt := 13) hx hb dX12_turn_6 (by decide) (fun _ => ?_) (fun h9 => absurd (by decide) h9)
  refine lv_iconst (v := 1) hx hb dX12_turn_13 (by decide) ?_
  have hPc := hP.sub (ws' := [(m0, .inr (12, mM kd gw fa gM 0 0 0 0 0 0 0 0 th))]) [0] rfl
  have hDc := hD.sub (ws' := [(m0, .inr (12, mM kd gw fa gM 0 0 0 0 0 0 0 0 th))]) [0] (by decide) rfl
  have hKc := hK.sub (tys' := []) [] rfl
  have hFc := va_free (wc := [(m0, .inr (12, mM kd gw fa gM 0 0 0 0 0 0 0 0 th))]) hD hS hA [0] rfl
  refine va_calli (va_runV (As := [.int 1]) (rest := []) ⟨hx, hb, hml, hown, hts⟩ (c_X12_can l dC dI H167.size m0 kd gw fa gM th 1) (cwV 1 hts (gV u_1403 u_1405 v_44 u_14 u_1406) rfl rfl rfl (by decide +kernel) ⟨Nat.le_of_ble_eq_true rfl, Nat.le_of_ble_eq_true rfl⟩) ⟨gP_blind, va_recv hKc hPc (ci := 12) (q0 := 0) rfl rfl, gP_call hPc hKc hDc hE⟩ rfl rfl hl.1 rfl (lv_room (Nat.le_of_ble_eq_true rfl)) dX12_turn_14 ⟨(Nat.le_of_ble_eq_true rfl), (Nat.le_of_ble_eq_true rfl)⟩) hS (fun q _ h => hFc q h) hFc (fun r170 u9 t9 H169 locs ht hvm hw hB hz1 hk1 hS => ?_)
  obtain ⟨hP1, hK1, hD1⟩ := hB
  rw [ht] at hP1
  have hK1 := va_K.moved hvm.symm hK1
  obtain ⟨hP, hD⟩ := va_join (wr := []) (w1 := [(m0, .inr (12, mM kd gw fa gM 0 0 0 0 0 0 0 0 1))]) hP hD [0] [] rfl rfl (by decide) (by decide) hk1 hFc hP1 hD1
  have hK := (hK.sub (tys' := []) [] rfl).app hK1
  have hK : va_K (dC, dI) vwCl [] s := hK
  have hP : va_P (dC, dI) vwCl [(m0, .inr (12, mM kd gw fa gM 0 0 0 0 0 0 0 0 1))] H169 := hP
  have hD : va_D A [(m0, .inr (12, mM kd gw fa gM 0 0 0 0 0 0 0 0 1))] := hD
  subst hw
  rw [show gCan 1 = 0 from by decide]
  refine lv_if_ne (tgt := 22) hx hb dX12_turn_17 (by decide) (fun h9 => absurd (by decide) h9) (fun _ => ?_)
  refine lv_iconst (v := 0) hx hb dX12_turn_20 (by decide) ?_
  refine W.widen (k := 0) (n := 0) (Nat.le_of_ble_eq_true rfl) (Nat.le_of_ble_eq_true rfl) ?_
  exact W.zret (v := 0) hx hb hr (by decide) (fun t ht hW => ⟨⟨0, (), rfl, rfl, ⟨by rw [ht]; exact hP, va_K.moved hW.alike hK, hD⟩⟩, hS.F ht⟩) hS.2.2 dX12_turn_21
set_option maxHeartbeats 4000000 in
set_option maxRecDepth 100000 in
theorem c_X12_isBlocked (l : Launch) (dC : Nat → ClassId) (dI : Nat → Nat → Nat) (sz : Nat) (m0 : Nat) (kd : Nat) (gw : Nat) (fa : Nat) (gM : Nat → Nat) (th : Int32) (a0 : Int32) : Met l yX12_isBlocked (Cond.code yX12_isBlocked cX12_isBlocked 2 (some .boolean) :: gU) ({ frames := 2, cells := 0, slots := 0, locals := 43 }) (gP dC dI sz [(m0, .inr (12, mM kd gw fa gM 0 0 0 0 0 0 0 0 th))] [] [.ref m0, .int a0]) (va_Qi (fun (r : Int32) (_ : Unit) => r = 0) (fun (_ : Unit) (t9 : State) => va_P (dC, dI) vwCl [(m0, .inr (12, mM kd gw fa gM 0 0 0 0 0 0 0 0 1))] t9.heap ∧ va_K (dC, dI) vwCl [] t9 ∧ va_D (va_A [(m0, .inr (12, mM kd gw fa gM 0 0 0 0 0 0 0 0 th))] sz) [(m0, .inr (12, mM kd gw fa gM 0 0 0 0 0 0 0 0 1))]) (va_A [(m0, .inr (12, mM kd gw fa gM 0 0 0 0 0 0 0 0 th))] sz)) 0 0 (va_A [(m0, .inr (12, mM kd gw fa gM 0 0 0 0 0 0 0 0 th))] sz) := by
  refine Met.ofW (cc := cX12_isBlocked) (maxL := 2) (ret := (some .boolean)) (by decide) rfl ?_
  intro p e s m args below meth c s₁ B hml hv
  obtain ⟨rfl, hsz, hP, hK, hD0, hE⟩ := hv
  have hx := B.exec
  have hb := B.bytes
  have hr := B.returns
  have hts0 := atoms_spec (ws := Cond.code yX12_isBlocked cX12_isBlocked 2 (some .boolean) :: gU) B.pre
  have hts : ∀ w ∈ gU, w.before _ s = true := fun w h => hts0 w (List.mem_cons_of_mem _ h)
  have hown : s.vm.findClass RX12 = some m.cls := findClass_of_methodNamed B.named
  have hlocks := B.notSynchronized
  subst hsz
  have hD := hD0.self (sz := s.heap.size)
  generalize hAe : va_A [(m0, .inr (12, mM kd gw fa gM 0 0 0 0 0 0 0 0 th))] s.heap.size = A at hD ⊢
  have hA : ∀ q : Nat, s.heap.size ≤ q → A q := fun q h => by rw [← hAe]; exact Or.inr h
  have hS : va_S A s.heap s.heap [] := va_S.rf
  have hP : va_P (dC, dI) vwCl [(m0, .inr (12, mM kd gw fa gM 0 0 0 0 0 0 0 0 th))] s.heap := hP
  have hl := lv_entry ([.ref m0, .int a0]) (n := 2) (Nat.le_of_ble_eq_true rfl)
  rw [lg_entry_eq]
  generalize (lg_sl ([.ref m0, .int a0]) ++ List.replicate (2 - (lg_sl ([.ref m0, .int a0])).length) Slot.unset).toArray = ls at hl ⊢
  have hl : lv_has ls 2 [(0, .ref m0), (1, .int a0)] := hl
  refine lv_aload_n hx hb dX12_isBlocked_0 rfl (lv_at hl 0 rfl) ?_
  refine lv_aload_n hx hb dX12_isBlocked_1 rfl (lv_at hl 0 rfl) ?_
  refine lv_iload_n hx hb dX12_isBlocked_2 rfl (lv_at hl 1 rfl) ?_
  have hPc := hP.sub (ws' := [(m0, .inr (12, mM kd gw fa gM 0 0 0 0 0 0 0 0 th))]) [0] rfl
  have hDc := hD.sub (ws' := [(m0, .inr (12, mM kd gw fa gM 0 0 0 0 0 0 0 0 th))]) [0] (by decide) rfl
  have hKc := hK.sub (tys' := []) [] rfl
  have hFc := roF hS hA
  refine va_calli (va_runV (As := [.int a0]) (rest := [.ref m0]) ⟨hx, hb, hml, hown, hts⟩ (c_X12_isCable l dC dI s.heap.size m0 kd gw fa gM th a0) (cwV 1 hts (gV u_1423 u_1425 v_47 u_14 u_1426) rfl rfl rfl (by decide +kernel) ⟨Nat.le_of_ble_eq_true rfl, Nat.le_of_ble_eq_true rfl⟩) ⟨gP_blind, va_recv hKc hPc (ci := 12) (q0 := 0) rfl rfl, gP_call hPc hKc hDc hE⟩ rfl rfl hl.1 rfl (lv_room (Nat.le_of_ble_eq_true rfl)) dX12_isBlocked_3 ⟨(Nat.le_of_ble_eq_true rfl), (Nat.le_of_ble_eq_true rfl)⟩) hS (fun q _ h => hFc q h) hFc (fun r172 u9 t9 H171 locs ht hvm hw hB hz1 hk1 hS => ?_)
  have hP := roP hP hk1
  subst hw
  refine lv_if_eq (tgt := 13) hx hb dX12_isBlocked_6 (by decide) (fun _ => ?_) (fun h9 => absurd (by decide) h9)
  refine lv_iconst (v := 1) hx hb dX12_isBlocked_13 (by decide) ?_
  have hPc := hP.sub (ws' := [(m0, .inr (12, mM kd gw fa gM 0 0 0 0 0 0 0 0 th))]) [0] rfl
  have hDc := hD.sub (ws' := [(m0, .inr (12, mM kd gw fa gM 0 0 0 0 0 0 0 0 th))]) [0] (by decide) rfl
  have hKc := hK.sub (tys' := []) [] rfl
  have hFc := va_free (wc := [(m0, .inr (12, mM kd gw fa gM 0 0 0 0 0 0 0 0 th))]) hD hS hA [0] rfl
  refine va_calli (va_runV (As := [.int 1]) (rest := []) ⟨hx, hb, hml, hown, hts⟩ (c_X12_can l dC dI H171.size m0 kd gw fa gM th 1) (cwV 1 hts (gV u_1403 u_1405 v_44 u_14 u_1406) rfl rfl rfl (by decide +kernel) ⟨Nat.le_of_ble_eq_true rfl, Nat.le_of_ble_eq_true rfl⟩) ⟨gP_blind, va_recv hKc hPc (ci := 12) (q0 := 0) rfl rfl, gP_call hPc hKc hDc hE⟩ rfl rfl hl.1 rfl (lv_room (Nat.le_of_ble_eq_true rfl)) dX12_isBlocked_14 ⟨(Nat.le_of_ble_eq_true rfl), (Nat.le_of_ble_eq_true rfl)⟩) hS (fun q _ h => hFc q h) hFc (fun r174 u9 t9 H173 locs ht hvm hw hB hz1 hk1 hS => ?_)
  obtain ⟨hP1, hK1, hD1⟩ := hB
  rw [ht] at hP1
  have hK1 := va_K.moved hvm.symm hK1
  obtain ⟨hP, hD⟩ := va_join (wr := []) (w1 := [(m0, .inr (12, mM kd gw fa gM 0 0 0 0 0 0 0 0 1))]) hP hD [0] [] rfl rfl (by decide) (by decide) hk1 hFc hP1 hD1
  have hK := (hK.sub (tys' := []) [] rfl).app hK1
  have hK : va_K (dC, dI) vwCl [] s := hK
  have hP : va_P (dC, dI) vwCl [(m0, .inr (12, mM kd gw fa gM 0 0 0 0 0 0 0 0 1))] H173 := hP
  have hD : va_D A [(m0, .inr (12, mM kd gw fa gM 0 0 0 0 0 0 0 0 1))] := hD
  subst hw
  rw [show gCan 1 = 0 from by decide]
  refine lv_if_ne (tgt := 22) hx hb dX12_isBlocked_17 (by decide) (fun h9 => absurd (by decide) h9) (fun _ => ?_)
  refine lv_iconst (v := 0) hx hb dX12_isBlocked_20 (by decide) ?_
  refine W.widen (k := 0) (n := 0) (Nat.le_of_ble_eq_true rfl) (Nat.le_of_ble_eq_true rfl) ?_
  exact W.zret (v := 0) hx hb hr (by decide) (fun t ht hW => ⟨⟨0, (), rfl, rfl, ⟨by rw [ht]; exact hP, va_K.moved hW.alike hK, hD⟩⟩, hS.F ht⟩) hS.2.2 dX12_isBlocked_21
set_option maxHeartbeats 4000000 in
set_option maxRecDepth 100000 in
theorem c_X12_net (l : Launch) (dC : Nat → ClassId) (dI : Nat → Nat → Nat) (sz : Nat) (m0 : Nat) (kd : Nat) (gw : Nat) (fa : Nat) (gM : Nat → Nat) (th : Int32) (a0 : Int32) (a1 : Int32) : Met l yX12_net (Cond.code yX12_net cX12_net 5 (some .int) :: gU) ({ frames := 3, cells := 0, slots := 0, locals := 64 }) (gP dC dI sz [(m0, .inr (12, mM kd gw fa gM 0 0 0 0 0 0 0 0 th))] [] [.ref m0, .int a0, .int a1]) (va_Qi (fun (r : Int32) (_ : Unit) => r = 0) (fun (_ : Unit) (t9 : State) => va_P (dC, dI) vwCl [(m0, .inr (12, mM kd gw fa gM 0 0 0 0 0 0 0 0 1))] t9.heap ∧ va_K (dC, dI) vwCl [] t9 ∧ va_D (va_A [(m0, .inr (12, mM kd gw fa gM 0 0 0 0 0 0 0 0 th))] sz) [(m0, .inr (12, mM kd gw fa gM 0 0 0 0 0 0 0 0 1))]) (va_A [(m0, .inr (12, mM kd gw fa gM 0 0 0 0 0 0 0 0 th))] sz)) 0 0 (va_A [(m0, .inr (12, mM kd gw fa gM 0 0 0 0 0 0 0 0 th))] sz) := by
  refine Met.ofW (cc := cX12_net) (maxL := 5) (ret := (some .int)) (by decide) rfl ?_
  intro p e s m args below meth c s₁ B hml hv
  obtain ⟨rfl, hsz, hP, hK, hD0, hE⟩ := hv
  have hx := B.exec
  have hb := B.bytes
  have hr := B.returns
  have hts0 := atoms_spec (ws := Cond.code yX12_net cX12_net 5 (some .int) :: gU) B.pre
  have hts : ∀ w ∈ gU, w.before _ s = true := fun w h => hts0 w (List.mem_cons_of_mem _ h)
  have hown : s.vm.findClass RX12 = some m.cls := findClass_of_methodNamed B.named
  have hlocks := B.notSynchronized
  subst hsz
  have hD := hD0.self (sz := s.heap.size)
  generalize hAe : va_A [(m0, .inr (12, mM kd gw fa gM 0 0 0 0 0 0 0 0 th))] s.heap.size = A at hD ⊢
  have hA : ∀ q : Nat, s.heap.size ≤ q → A q := fun q h => by rw [← hAe]; exact Or.inr h
  have hS : va_S A s.heap s.heap [] := va_S.rf
  have hP : va_P (dC, dI) vwCl [(m0, .inr (12, mM kd gw fa gM 0 0 0 0 0 0 0 0 th))] s.heap := hP
  have hl := lv_entry ([.ref m0, .int a0, .int a1]) (n := 5) (Nat.le_of_ble_eq_true rfl)
  rw [lg_entry_eq]
  generalize (lg_sl ([.ref m0, .int a0, .int a1]) ++ List.replicate (5 - (lg_sl ([.ref m0, .int a0, .int a1])).length) Slot.unset).toArray = ls at hl ⊢
  have hl : lv_has ls 5 [(0, .ref m0), (1, .int a0), (2, .int a1)] := hl
  refine lv_aload_n hx hb dX12_net_0 rfl (lv_at hl 0 rfl) ?_
  refine lv_iload_n hx hb dX12_net_1 rfl (lv_at hl 1 rfl) ?_
  have hPc := hP.sub (ws' := [(m0, .inr (12, mM kd gw fa gM 0 0 0 0 0 0 0 0 th))]) [0] rfl
  have hDc := hD.sub (ws' := [(m0, .inr (12, mM kd gw fa gM 0 0 0 0 0 0 0 0 th))]) [0] (by decide) rfl
  have hKc := hK.sub (tys' := []) [] rfl
  have hFc := roF hS hA
  refine va_calli (va_runV (As := [.int a0]) (rest := []) ⟨hx, hb, hml, hown, hts⟩ (c_X12_isPort l dC dI s.heap.size m0 kd gw fa gM th a0) (cwV 1 hts (gV u_1411 u_1413 v_45 u_14 u_1414) rfl rfl rfl (by decide +kernel) ⟨Nat.le_of_ble_eq_true rfl, Nat.le_of_ble_eq_true rfl⟩) ⟨gP_blind, va_recv hKc hPc (ci := 12) (q0 := 0) rfl rfl, gP_call hPc hKc hDc hE⟩ rfl rfl hl.1 rfl (lv_room (Nat.le_of_ble_eq_true rfl)) dX12_net_2 ⟨(Nat.le_of_ble_eq_true rfl), (Nat.le_of_ble_eq_true rfl)⟩) hS (fun q _ h => hFc q h) hFc (fun r176 u9 t9 H175 locs ht hvm hw hB hz1 hk1 hS => ?_)
  have hP := roP hP hk1
  subst hw
  refine lv_istore_n (lv' := [(3, .int 0), (0, .ref m0), (1, .int a0), (2, .int a1)]) hx hb dX12_net_5 rfl hl (by decide) rfl (fun ls hl => ?_)
  refine lv_aload_n hx hb dX12_net_6 rfl (lv_at hl 1 rfl) ?_
  refine lv_iload_n hx hb dX12_net_7 rfl (lv_at hl 0 rfl) ?_
  refine lv_if_ne (tgt := 15) hx hb dX12_net_8 (by decide) (fun h9 => absurd (by decide) h9) (fun _ => ?_)
  refine lv_iconst (v := 1) hx hb dX12_net_11 (by decide) ?_
  refine lv_goto (tgt := 38) hx hb dX12_net_12 (by decide) ?_
  have hPc := hP.sub (ws' := [(m0, .inr (12, mM kd gw fa gM 0 0 0 0 0 0 0 0 th))]) [0] rfl
  have hDc := hD.sub (ws' := [(m0, .inr (12, mM kd gw fa gM 0 0 0 0 0 0 0 0 th))]) [0] (by decide) rfl
  have hKc := hK.sub (tys' := []) [] rfl
  have hFc := va_free (wc := [(m0, .inr (12, mM kd gw fa gM 0 0 0 0 0 0 0 0 th))]) hD hS hA [0] rfl
  refine va_calli (va_runV (As := [.int 1]) (rest := []) ⟨hx, hb, hml, hown, hts⟩ (c_X12_can l dC dI H175.size m0 kd gw fa gM th 1) (cwV 1 hts (gV u_1403 u_1405 v_44 u_14 u_1406) rfl rfl rfl (by decide +kernel) ⟨Nat.le_of_ble_eq_true rfl, Nat.le_of_ble_eq_true rfl⟩) ⟨gP_blind, va_recv hKc hPc (ci := 12) (q0 := 0) rfl rfl, gP_call hPc hKc hDc hE⟩ rfl rfl hl.1 rfl (lv_room (Nat.le_of_ble_eq_true rfl)) dX12_net_38 ⟨(Nat.le_of_ble_eq_true rfl), (Nat.le_of_ble_eq_true rfl)⟩) hS (fun q _ h => hFc q h) hFc (fun r178 u9 t9 H177 locs ht hvm hw hB hz1 hk1 hS => ?_)
  obtain ⟨hP1, hK1, hD1⟩ := hB
  rw [ht] at hP1
  have hK1 := va_K.moved hvm.symm hK1
  obtain ⟨hP, hD⟩ := va_join (wr := []) (w1 := [(m0, .inr (12, mM kd gw fa gM 0 0 0 0 0 0 0 0 1))]) hP hD [0] [] rfl rfl (by decide) (by decide) hk1 hFc hP1 hD1
  have hK := (hK.sub (tys' := []) [] rfl).app hK1
  have hK : va_K (dC, dI) vwCl [] s := hK
  have hP : va_P (dC, dI) vwCl [(m0, .inr (12, mM kd gw fa gM 0 0 0 0 0 0 0 0 1))] H177 := hP
  have hD : va_D A [(m0, .inr (12, mM kd gw fa gM 0 0 0 0 0 0 0 0 1))] := hD
  subst hw
  rw [show gCan 1 = 0 from by decide]
  refine lv_if_ne (tgt := 46) hx hb dX12_net_41 (by decide) (fun h9 => absurd (by decide) h9) (fun _ => ?_)
  refine lv_iconst (v := 0) hx hb dX12_net_44 (by decide) ?_
  refine W.widen (k := 0) (n := 0) (Nat.le_of_ble_eq_true rfl) (Nat.le_of_ble_eq_true rfl) ?_
  exact W.iret (v := 0) hx hb hr (fun t ht hW => ⟨⟨0, (), rfl, rfl, ⟨by rw [ht]; exact hP, va_K.moved hW.alike hK, hD⟩⟩, hS.F ht⟩) hS.2.2 dX12_net_45
set_option maxHeartbeats 4000000 in
set_option maxRecDepth 100000 in
theorem c_X12_sees (l : Launch) (dC : Nat → ClassId) (dI : Nat → Nat → Nat) (sz : Nat) (m0 : Nat) (kd : Nat) (gw : Nat) (fa : Nat) (gM : Nat → Nat) (th : Int32) (a0 : Int32) (a1 : Int32) : Met l yX12_sees (Cond.code yX12_sees cX12_sees 4 (some .boolean) :: gU) ({ frames := 3, cells := 0, slots := 0, locals := 64 }) (gP dC dI sz [(m0, .inr (12, mM kd gw fa gM 0 0 0 0 0 0 0 0 th))] [] [.ref m0, .int a0, .int a1]) (va_Qi (fun (r : Int32) (_ : Unit) => r = 0) (fun (_ : Unit) (t9 : State) => va_P (dC, dI) vwCl [(m0, .inr (12, mM kd gw fa gM 0 0 0 0 0 0 0 0 1))] t9.heap ∧ va_K (dC, dI) vwCl [] t9 ∧ va_D (va_A [(m0, .inr (12, mM kd gw fa gM 0 0 0 0 0 0 0 0 th))] sz) [(m0, .inr (12, mM kd gw fa gM 0 0 0 0 0 0 0 0 1))]) (va_A [(m0, .inr (12, mM kd gw fa gM 0 0 0 0 0 0 0 0 th))] sz)) 0 0 (va_A [(m0, .inr (12, mM kd gw fa gM 0 0 0 0 0 0 0 0 th))] sz) := by
  refine Met.ofW (cc := cX12_sees) (maxL := 4) (ret := (some .boolean)) (by decide) rfl ?_
  intro p e s m args below meth c s₁ B hml hv
  obtain ⟨rfl, hsz, hP, hK, hD0, hE⟩ := hv
  have hx := B.exec
  have hb := B.bytes
  have hr := B.returns
  have hts0 := atoms_spec (ws := Cond.code yX12_sees cX12_sees 4 (some .boolean) :: gU) B.pre
  have hts : ∀ w ∈ gU, w.before _ s = true := fun w h => hts0 w (List.mem_cons_of_mem _ h)
  have hown : s.vm.findClass RX12 = some m.cls := findClass_of_methodNamed B.named
  have hlocks := B.notSynchronized
  subst hsz
  have hD := hD0.self (sz := s.heap.size)
  generalize hAe : va_A [(m0, .inr (12, mM kd gw fa gM 0 0 0 0 0 0 0 0 th))] s.heap.size = A at hD ⊢
  have hA : ∀ q : Nat, s.heap.size ≤ q → A q := fun q h => by rw [← hAe]; exact Or.inr h
  have hS : va_S A s.heap s.heap [] := va_S.rf
  have hP : va_P (dC, dI) vwCl [(m0, .inr (12, mM kd gw fa gM 0 0 0 0 0 0 0 0 th))] s.heap := hP
  have hl := lv_entry ([.ref m0, .int a0, .int a1]) (n := 4) (Nat.le_of_ble_eq_true rfl)
  rw [lg_entry_eq]
  generalize (lg_sl ([.ref m0, .int a0, .int a1]) ++ List.replicate (4 - (lg_sl ([.ref m0, .int a0, .int a1])).length) Slot.unset).toArray = ls at hl ⊢
  have hl : lv_has ls 4 [(0, .ref m0), (1, .int a0), (2, .int a1)] := hl
  refine lv_aload_n hx hb dX12_sees_0 rfl (lv_at hl 0 rfl) ?_
  refine lv_iload_n hx hb dX12_sees_1 rfl (lv_at hl 1 rfl) ?_
  have hPc := hP.sub (ws' := [(m0, .inr (12, mM kd gw fa gM 0 0 0 0 0 0 0 0 th))]) [0] rfl
  have hDc := hD.sub (ws' := [(m0, .inr (12, mM kd gw fa gM 0 0 0 0 0 0 0 0 th))]) [0] (by decide) rfl
  have hKc := hK.sub (tys' := []) [] rfl
  have hFc := roF hS hA
  refine va_calli (va_runV (As := [.int a0]) (rest := []) ⟨hx, hb, hml, hown, hts⟩ (c_X12_isPort l dC dI s.heap.size m0 kd gw fa gM th a0) (cwV 1 hts (gV u_1411 u_1413 v_45 u_14 u_1414) rfl rfl rfl (by decide +kernel) ⟨Nat.le_of_ble_eq_true rfl, Nat.le_of_ble_eq_true rfl⟩) ⟨gP_blind, va_recv hKc hPc (ci := 12) (q0 := 0) rfl rfl, gP_call hPc hKc hDc hE⟩ rfl rfl hl.1 rfl (lv_room (Nat.le_of_ble_eq_true rfl)) dX12_sees_2 ⟨(Nat.le_of_ble_eq_true rfl), (Nat.le_of_ble_eq_true rfl)⟩) hS (fun q _ h => hFc q h) hFc (fun r180 u9 t9 H179 locs ht hvm hw hB hz1 hk1 hS => ?_)
  have hP := roP hP hk1
  subst hw
  refine lv_if_eq (tgt := 20) hx hb dX12_sees_5 (by decide) (fun _ => ?_) (fun h9 => absurd (by decide) h9)
  refine lv_iconst (v := 0) hx hb dX12_sees_20 (by decide) ?_
  refine lv_istore_n (lv' := [(3, .int 0), (0, .ref m0), (1, .int a0), (2, .int a1)]) hx hb dX12_sees_21 rfl hl (by decide) rfl (fun ls hl => ?_)
  refine lv_aload_n hx hb dX12_sees_22 rfl (lv_at hl 1 rfl) ?_
  refine lv_iload_n hx hb dX12_sees_23 rfl (lv_at hl 0 rfl) ?_
  refine lv_if_ne (tgt := 31) hx hb dX12_sees_24 (by decide) (fun h9 => absurd (by decide) h9) (fun _ => ?_)
  refine lv_iconst (v := 1) hx hb dX12_sees_27 (by decide) ?_
  refine lv_goto (tgt := 59) hx hb dX12_sees_28 (by decide) ?_
  have hPc := hP.sub (ws' := [(m0, .inr (12, mM kd gw fa gM 0 0 0 0 0 0 0 0 th))]) [0] rfl
  have hDc := hD.sub (ws' := [(m0, .inr (12, mM kd gw fa gM 0 0 0 0 0 0 0 0 th))]) [0] (by decide) rfl
  have hKc := hK.sub (tys' := []) [] rfl
  have hFc := va_free (wc := [(m0, .inr (12, mM kd gw fa gM 0 0 0 0 0 0 0 0 th))]) hD hS hA [0] rfl
  refine va_calli (va_runV (As := [.int 1]) (rest := []) ⟨hx, hb, hml, hown, hts⟩ (c_X12_can l dC dI H179.size m0 kd gw fa gM th 1) (cwV 1 hts (gV u_1403 u_1405 v_44 u_14 u_1406) rfl rfl rfl (by decide +kernel) ⟨Nat.le_of_ble_eq_true rfl, Nat.le_of_ble_eq_true rfl⟩) ⟨gP_blind, va_recv hKc hPc (ci := 12) (q0 := 0) rfl rfl, gP_call hPc hKc hDc hE⟩ rfl rfl hl.1 rfl (lv_room (Nat.le_of_ble_eq_true rfl)) dX12_sees_59 ⟨(Nat.le_of_ble_eq_true rfl), (Nat.le_of_ble_eq_true rfl)⟩) hS (fun q _ h => hFc q h) hFc (fun r182 u9 t9 H181 locs ht hvm hw hB hz1 hk1 hS => ?_)
  obtain ⟨hP1, hK1, hD1⟩ := hB
  rw [ht] at hP1
  have hK1 := va_K.moved hvm.symm hK1
  obtain ⟨hP, hD⟩ := va_join (wr := []) (w1 := [(m0, .inr (12, mM kd gw fa gM 0 0 0 0 0 0 0 0 1))]) hP hD [0] [] rfl rfl (by decide) (by decide) hk1 hFc hP1 hD1
  have hK := (hK.sub (tys' := []) [] rfl).app hK1
  have hK : va_K (dC, dI) vwCl [] s := hK
  have hP : va_P (dC, dI) vwCl [(m0, .inr (12, mM kd gw fa gM 0 0 0 0 0 0 0 0 1))] H181 := hP
  have hD : va_D A [(m0, .inr (12, mM kd gw fa gM 0 0 0 0 0 0 0 0 1))] := hD
  subst hw
  rw [show gCan 1 = 0 from by decide]
  refine lv_if_ne (tgt := 67) hx hb dX12_sees_62 (by decide) (fun h9 => absurd (by decide) h9) (fun _ => ?_)
  refine lv_iconst (v := 0) hx hb dX12_sees_65 (by decide) ?_
  refine W.widen (k := 0) (n := 0) (Nat.le_of_ble_eq_true rfl) (Nat.le_of_ble_eq_true rfl) ?_
  exact W.zret (v := 0) hx hb hr (by decide) (fun t ht hW => ⟨⟨0, (), rfl, rfl, ⟨by rw [ht]; exact hP, va_K.moved hW.alike hK, hD⟩⟩, hS.F ht⟩) hS.2.2 dX12_sees_66
set_option maxHeartbeats 4000000 in
set_option maxRecDepth 100000 in
theorem c_X12_address (l : Launch) (dC : Nat → ClassId) (dI : Nat → Nat → Nat) (sz : Nat) (m0 : Nat) (kd : Nat) (gw : Nat) (fa : Nat) (gM : Nat → Nat) (th : Int32) (a0 : Int32) (a1 : Int32) (a2 : Int32) : Met l yX12_address (Cond.code yX12_address cX12_address 6 (some .int) :: gU) ({ frames := 3, cells := 0, slots := 0, locals := 64 }) (gP dC dI sz [(m0, .inr (12, mM kd gw fa gM 0 0 0 0 0 0 0 0 th))] [] [.ref m0, .int a0, .int a1, .int a2]) (va_Qi (fun (r : Int32) (_ : Unit) => r = 0) (fun (_ : Unit) (t9 : State) => va_P (dC, dI) vwCl [(m0, .inr (12, mM kd gw fa gM 0 0 0 0 0 0 0 0 1))] t9.heap ∧ va_K (dC, dI) vwCl [] t9 ∧ va_D (va_A [(m0, .inr (12, mM kd gw fa gM 0 0 0 0 0 0 0 0 th))] sz) [(m0, .inr (12, mM kd gw fa gM 0 0 0 0 0 0 0 0 1))]) (va_A [(m0, .inr (12, mM kd gw fa gM 0 0 0 0 0 0 0 0 th))] sz)) 0 0 (va_A [(m0, .inr (12, mM kd gw fa gM 0 0 0 0 0 0 0 0 th))] sz) := by
  refine Met.ofW (cc := cX12_address) (maxL := 6) (ret := (some .int)) (by decide) rfl ?_
  intro p e s m args below meth c s₁ B hml hv
  obtain ⟨rfl, hsz, hP, hK, hD0, hE⟩ := hv
  have hx := B.exec
  have hb := B.bytes
  have hr := B.returns
  have hts0 := atoms_spec (ws := Cond.code yX12_address cX12_address 6 (some .int) :: gU) B.pre
  have hts : ∀ w ∈ gU, w.before _ s = true := fun w h => hts0 w (List.mem_cons_of_mem _ h)
  have hown : s.vm.findClass RX12 = some m.cls := findClass_of_methodNamed B.named
  have hlocks := B.notSynchronized
  subst hsz
  have hD := hD0.self (sz := s.heap.size)
  generalize hAe : va_A [(m0, .inr (12, mM kd gw fa gM 0 0 0 0 0 0 0 0 th))] s.heap.size = A at hD ⊢
  have hA : ∀ q : Nat, s.heap.size ≤ q → A q := fun q h => by rw [← hAe]; exact Or.inr h
  have hS : va_S A s.heap s.heap [] := va_S.rf
  have hP : va_P (dC, dI) vwCl [(m0, .inr (12, mM kd gw fa gM 0 0 0 0 0 0 0 0 th))] s.heap := hP
  have hl := lv_entry ([.ref m0, .int a0, .int a1, .int a2]) (n := 6) (Nat.le_of_ble_eq_true rfl)
  rw [lg_entry_eq]
  generalize (lg_sl ([.ref m0, .int a0, .int a1, .int a2]) ++ List.replicate (6 - (lg_sl ([.ref m0, .int a0, .int a1, .int a2])).length) Slot.unset).toArray = ls at hl ⊢
  have hl : lv_has ls 6 [(0, .ref m0), (1, .int a0), (2, .int a1), (3, .int a2)] := hl
  refine lv_aload_n hx hb dX12_address_0 rfl (lv_at hl 0 rfl) ?_
  refine lv_iload_n hx hb dX12_address_1 rfl (lv_at hl 1 rfl) ?_
  have hPc := hP.sub (ws' := [(m0, .inr (12, mM kd gw fa gM 0 0 0 0 0 0 0 0 th))]) [0] rfl
  have hDc := hD.sub (ws' := [(m0, .inr (12, mM kd gw fa gM 0 0 0 0 0 0 0 0 th))]) [0] (by decide) rfl
  have hKc := hK.sub (tys' := []) [] rfl
  have hFc := roF hS hA
  refine va_calli (va_runV (As := [.int a0]) (rest := []) ⟨hx, hb, hml, hown, hts⟩ (c_X12_isPort l dC dI s.heap.size m0 kd gw fa gM th a0) (cwV 1 hts (gV u_1411 u_1413 v_45 u_14 u_1414) rfl rfl rfl (by decide +kernel) ⟨Nat.le_of_ble_eq_true rfl, Nat.le_of_ble_eq_true rfl⟩) ⟨gP_blind, va_recv hKc hPc (ci := 12) (q0 := 0) rfl rfl, gP_call hPc hKc hDc hE⟩ rfl rfl hl.1 rfl (lv_room (Nat.le_of_ble_eq_true rfl)) dX12_address_2 ⟨(Nat.le_of_ble_eq_true rfl), (Nat.le_of_ble_eq_true rfl)⟩) hS (fun q _ h => hFc q h) hFc (fun r184 u9 t9 H183 locs ht hvm hw hB hz1 hk1 hS => ?_)
  have hP := roP hP hk1
  subst hw
  refine lv_istore (lv' := [(4, .int 0), (0, .ref m0), (1, .int a0), (2, .int a1), (3, .int a2)]) hx hb dX12_address_5 hl (by decide) rfl (fun ls hl => ?_)
  refine lv_aload_n hx hb dX12_address_7 rfl (lv_at hl 1 rfl) ?_
  refine lv_iload hx hb dX12_address_8 (lv_at hl 0 rfl) ?_
  refine lv_if_ne (tgt := 17) hx hb dX12_address_10 (by decide) (fun h9 => absurd (by decide) h9) (fun _ => ?_)
  refine lv_iconst (v := 1) hx hb dX12_address_13 (by decide) ?_
  refine lv_goto (tgt := 48) hx hb dX12_address_14 (by decide) ?_
  have hPc := hP.sub (ws' := [(m0, .inr (12, mM kd gw fa gM 0 0 0 0 0 0 0 0 th))]) [0] rfl
  have hDc := hD.sub (ws' := [(m0, .inr (12, mM kd gw fa gM 0 0 0 0 0 0 0 0 th))]) [0] (by decide) rfl
  have hKc := hK.sub (tys' := []) [] rfl
  have hFc := va_free (wc := [(m0, .inr (12, mM kd gw fa gM 0 0 0 0 0 0 0 0 th))]) hD hS hA [0] rfl
  refine va_calli (va_runV (As := [.int 1]) (rest := []) ⟨hx, hb, hml, hown, hts⟩ (c_X12_can l dC dI H183.size m0 kd gw fa gM th 1) (cwV 1 hts (gV u_1403 u_1405 v_44 u_14 u_1406) rfl rfl rfl (by decide +kernel) ⟨Nat.le_of_ble_eq_true rfl, Nat.le_of_ble_eq_true rfl⟩) ⟨gP_blind, va_recv hKc hPc (ci := 12) (q0 := 0) rfl rfl, gP_call hPc hKc hDc hE⟩ rfl rfl hl.1 rfl (lv_room (Nat.le_of_ble_eq_true rfl)) dX12_address_48 ⟨(Nat.le_of_ble_eq_true rfl), (Nat.le_of_ble_eq_true rfl)⟩) hS (fun q _ h => hFc q h) hFc (fun r186 u9 t9 H185 locs ht hvm hw hB hz1 hk1 hS => ?_)
  obtain ⟨hP1, hK1, hD1⟩ := hB
  rw [ht] at hP1
  have hK1 := va_K.moved hvm.symm hK1
  obtain ⟨hP, hD⟩ := va_join (wr := []) (w1 := [(m0, .inr (12, mM kd gw fa gM 0 0 0 0 0 0 0 0 1))]) hP hD [0] [] rfl rfl (by decide) (by decide) hk1 hFc hP1 hD1
  have hK := (hK.sub (tys' := []) [] rfl).app hK1
  have hK : va_K (dC, dI) vwCl [] s := hK
  have hP : va_P (dC, dI) vwCl [(m0, .inr (12, mM kd gw fa gM 0 0 0 0 0 0 0 0 1))] H185 := hP
  have hD : va_D A [(m0, .inr (12, mM kd gw fa gM 0 0 0 0 0 0 0 0 1))] := hD
  subst hw
  rw [show gCan 1 = 0 from by decide]
  refine lv_if_ne (tgt := 56) hx hb dX12_address_51 (by decide) (fun h9 => absurd (by decide) h9) (fun _ => ?_)
  refine lv_iconst (v := 0) hx hb dX12_address_54 (by decide) ?_
  refine W.widen (k := 0) (n := 0) (Nat.le_of_ble_eq_true rfl) (Nat.le_of_ble_eq_true rfl) ?_
  exact W.iret (v := 0) hx hb hr (fun t ht hW => ⟨⟨0, (), rfl, rfl, ⟨by rw [ht]; exact hP, va_K.moved hW.alike hK, hD⟩⟩, hS.F ht⟩) hS.2.2 dX12_address_55
set_option maxHeartbeats 4000000 in
set_option maxRecDepth 100000 in
theorem c_X12_gateway (l : Launch) (dC : Nat → ClassId) (dI : Nat → Nat → Nat) (sz : Nat) (m0 : Nat) (kd : Nat) (gw : Nat) (fa : Nat) (gM : Nat → Nat) (th : Int32) (a0 : Int32) (a1 : Int32) : Met l yX12_gateway (Cond.code yX12_gateway cX12_gateway 4 (some .int) :: gU) ({ frames := 2, cells := 0, slots := 0, locals := 43 }) (gP dC dI sz [(m0, .inr (12, mM kd gw fa gM 0 0 0 0 0 0 0 0 th))] [] [.ref m0, .int a0, .int a1]) (va_Qi (fun (r : Int32) (_ : Unit) => r = 0) (fun (_ : Unit) (t9 : State) => va_P (dC, dI) vwCl [(m0, .inr (12, mM kd gw fa gM 0 0 0 0 0 0 0 0 1))] t9.heap ∧ va_K (dC, dI) vwCl [] t9 ∧ va_D (va_A [(m0, .inr (12, mM kd gw fa gM 0 0 0 0 0 0 0 0 th))] sz) [(m0, .inr (12, mM kd gw fa gM 0 0 0 0 0 0 0 0 1))]) (va_A [(m0, .inr (12, mM kd gw fa gM 0 0 0 0 0 0 0 0 th))] sz)) 0 0 (va_A [(m0, .inr (12, mM kd gw fa gM 0 0 0 0 0 0 0 0 th))] sz) := by
  refine Met.ofW (cc := cX12_gateway) (maxL := 4) (ret := (some .int)) (by decide) rfl ?_
  intro p e s m args below meth c s₁ B hml hv
  obtain ⟨rfl, hsz, hP, hK, hD0, hE⟩ := hv
  have hx := B.exec
  have hb := B.bytes
  have hr := B.returns
  have hts0 := atoms_spec (ws := Cond.code yX12_gateway cX12_gateway 4 (some .int) :: gU) B.pre
  have hts : ∀ w ∈ gU, w.before _ s = true := fun w h => hts0 w (List.mem_cons_of_mem _ h)
  have hown : s.vm.findClass RX12 = some m.cls := findClass_of_methodNamed B.named
  have hlocks := B.notSynchronized
  subst hsz
  have hD := hD0.self (sz := s.heap.size)
  generalize hAe : va_A [(m0, .inr (12, mM kd gw fa gM 0 0 0 0 0 0 0 0 th))] s.heap.size = A at hD ⊢
  have hA : ∀ q : Nat, s.heap.size ≤ q → A q := fun q h => by rw [← hAe]; exact Or.inr h
  have hS : va_S A s.heap s.heap [] := va_S.rf
  have hP : va_P (dC, dI) vwCl [(m0, .inr (12, mM kd gw fa gM 0 0 0 0 0 0 0 0 th))] s.heap := hP
  have hl := lv_entry ([.ref m0, .int a0, .int a1]) (n := 4) (Nat.le_of_ble_eq_true rfl)
  rw [lg_entry_eq]
  generalize (lg_sl ([.ref m0, .int a0, .int a1]) ++ List.replicate (4 - (lg_sl ([.ref m0, .int a0, .int a1])).length) Slot.unset).toArray = ls at hl ⊢
  have hl : lv_has ls 4 [(0, .ref m0), (1, .int a0), (2, .int a1)] := hl
  refine lv_aload_n hx hb dX12_gateway_0 rfl (lv_at hl 0 rfl) ?_
  refine lv_aload_n hx hb dX12_gateway_1 rfl (lv_at hl 0 rfl) ?_
  refine lv_iload_n hx hb dX12_gateway_2 rfl (lv_at hl 1 rfl) ?_
  have hPc := hP.sub (ws' := [(m0, .inr (12, mM kd gw fa gM 0 0 0 0 0 0 0 0 th))]) [0] rfl
  have hDc := hD.sub (ws' := [(m0, .inr (12, mM kd gw fa gM 0 0 0 0 0 0 0 0 th))]) [0] (by decide) rfl
  have hKc := hK.sub (tys' := []) [] rfl
  have hFc := roF hS hA
  refine va_calli (va_runV (As := [.int a0]) (rest := [.ref m0]) ⟨hx, hb, hml, hown, hts⟩ (c_X12_isBox l dC dI s.heap.size m0 kd gw fa gM th a0) (cwV 1 hts (gV u_1415 u_1417 v_46 u_14 u_1418) rfl rfl rfl (by decide +kernel) ⟨Nat.le_of_ble_eq_true rfl, Nat.le_of_ble_eq_true rfl⟩) ⟨gP_blind, va_recv hKc hPc (ci := 12) (q0 := 0) rfl rfl, gP_call hPc hKc hDc hE⟩ rfl rfl hl.1 rfl (lv_room (Nat.le_of_ble_eq_true rfl)) dX12_gateway_3 ⟨(Nat.le_of_ble_eq_true rfl), (Nat.le_of_ble_eq_true rfl)⟩) hS (fun q _ h => hFc q h) hFc (fun r188 u9 t9 H187 locs ht hvm hw hB hz1 hk1 hS => ?_)
  have hP := roP hP hk1
  subst hw
  refine lv_if_ne (tgt := 13) hx hb dX12_gateway_6 (by decide) (fun h9 => absurd (by decide) h9) (fun _ => ?_)
  refine lv_iconst (v := 1) hx hb dX12_gateway_9 (by decide) ?_
  refine lv_goto (tgt := 39) hx hb dX12_gateway_10 (by decide) ?_
  have hPc := hP.sub (ws' := [(m0, .inr (12, mM kd gw fa gM 0 0 0 0 0 0 0 0 th))]) [0] rfl
  have hDc := hD.sub (ws' := [(m0, .inr (12, mM kd gw fa gM 0 0 0 0 0 0 0 0 th))]) [0] (by decide) rfl
  have hKc := hK.sub (tys' := []) [] rfl
  have hFc := va_free (wc := [(m0, .inr (12, mM kd gw fa gM 0 0 0 0 0 0 0 0 th))]) hD hS hA [0] rfl
  refine va_calli (va_runV (As := [.int 1]) (rest := []) ⟨hx, hb, hml, hown, hts⟩ (c_X12_can l dC dI H187.size m0 kd gw fa gM th 1) (cwV 1 hts (gV u_1403 u_1405 v_44 u_14 u_1406) rfl rfl rfl (by decide +kernel) ⟨Nat.le_of_ble_eq_true rfl, Nat.le_of_ble_eq_true rfl⟩) ⟨gP_blind, va_recv hKc hPc (ci := 12) (q0 := 0) rfl rfl, gP_call hPc hKc hDc hE⟩ rfl rfl hl.1 rfl (lv_room (Nat.le_of_ble_eq_true rfl)) dX12_gateway_39 ⟨(Nat.le_of_ble_eq_true rfl), (Nat.le_of_ble_eq_true rfl)⟩) hS (fun q _ h => hFc q h) hFc (fun r190 u9 t9 H189 locs ht hvm hw hB hz1 hk1 hS => ?_)
  obtain ⟨hP1, hK1, hD1⟩ := hB
  rw [ht] at hP1
  have hK1 := va_K.moved hvm.symm hK1
  obtain ⟨hP, hD⟩ := va_join (wr := []) (w1 := [(m0, .inr (12, mM kd gw fa gM 0 0 0 0 0 0 0 0 1))]) hP hD [0] [] rfl rfl (by decide) (by decide) hk1 hFc hP1 hD1
  have hK := (hK.sub (tys' := []) [] rfl).app hK1
  have hK : va_K (dC, dI) vwCl [] s := hK
  have hP : va_P (dC, dI) vwCl [(m0, .inr (12, mM kd gw fa gM 0 0 0 0 0 0 0 0 1))] H189 := hP
  have hD : va_D A [(m0, .inr (12, mM kd gw fa gM 0 0 0 0 0 0 0 0 1))] := hD
  subst hw
  rw [show gCan 1 = 0 from by decide]
  refine lv_if_ne (tgt := 47) hx hb dX12_gateway_42 (by decide) (fun h9 => absurd (by decide) h9) (fun _ => ?_)
  refine lv_iconst (v := 0) hx hb dX12_gateway_45 (by decide) ?_
  refine W.widen (k := 0) (n := 0) (Nat.le_of_ble_eq_true rfl) (Nat.le_of_ble_eq_true rfl) ?_
  exact W.iret (v := 0) hx hb hr (fun t ht hW => ⟨⟨0, (), rfl, rfl, ⟨by rw [ht]; exact hP, va_K.moved hW.alike hK, hD⟩⟩, hS.F ht⟩) hS.2.2 dX12_gateway_46
set_option maxHeartbeats 4000000 in
set_option maxRecDepth 100000 in
theorem c_X12_route (l : Launch) (dC : Nat → ClassId) (dI : Nat → Nat → Nat) (sz : Nat) (m0 : Nat) (kd : Nat) (gw : Nat) (fa : Nat) (gM : Nat → Nat) (th : Int32) (a0 : Int32) (a1 : Int32) (a2 : Int32) (a3 : Int32) : Met l yX12_route (Cond.code yX12_route cX12_route 7 (some .int) :: gU) ({ frames := 3, cells := 0, slots := 0, locals := 65 }) (gP dC dI sz [(m0, .inr (12, mM kd gw fa gM 0 0 0 0 0 0 0 0 th))] [] [.ref m0, .int a0, .int a1, .int a2, .int a3]) (va_Qi (fun (r : Int32) (_ : Unit) => r = 0) (fun (_ : Unit) (t9 : State) => va_P (dC, dI) vwCl [(m0, .inr (12, mM kd gw fa gM 0 0 0 0 0 0 0 0 1))] t9.heap ∧ va_K (dC, dI) vwCl [] t9 ∧ va_D (va_A [(m0, .inr (12, mM kd gw fa gM 0 0 0 0 0 0 0 0 th))] sz) [(m0, .inr (12, mM kd gw fa gM 0 0 0 0 0 0 0 0 1))]) (va_A [(m0, .inr (12, mM kd gw fa gM 0 0 0 0 0 0 0 0 th))] sz)) 0 0 (va_A [(m0, .inr (12, mM kd gw fa gM 0 0 0 0 0 0 0 0 th))] sz) := by
  refine Met.ofW (cc := cX12_route) (maxL := 7) (ret := (some .int)) (by decide) rfl ?_
  intro p e s m args below meth c s₁ B hml hv
  obtain ⟨rfl, hsz, hP, hK, hD0, hE⟩ := hv
  have hx := B.exec
  have hb := B.bytes
  have hr := B.returns
  have hts0 := atoms_spec (ws := Cond.code yX12_route cX12_route 7 (some .int) :: gU) B.pre
  have hts : ∀ w ∈ gU, w.before _ s = true := fun w h => hts0 w (List.mem_cons_of_mem _ h)
  have hown : s.vm.findClass RX12 = some m.cls := findClass_of_methodNamed B.named
  have hlocks := B.notSynchronized
  subst hsz
  have hD := hD0.self (sz := s.heap.size)
  generalize hAe : va_A [(m0, .inr (12, mM kd gw fa gM 0 0 0 0 0 0 0 0 th))] s.heap.size = A at hD ⊢
  have hA : ∀ q : Nat, s.heap.size ≤ q → A q := fun q h => by rw [← hAe]; exact Or.inr h
  have hS : va_S A s.heap s.heap [] := va_S.rf
  have hP : va_P (dC, dI) vwCl [(m0, .inr (12, mM kd gw fa gM 0 0 0 0 0 0 0 0 th))] s.heap := hP
  have hl := lv_entry ([.ref m0, .int a0, .int a1, .int a2, .int a3]) (n := 7) (Nat.le_of_ble_eq_true rfl)
  rw [lg_entry_eq]
  generalize (lg_sl ([.ref m0, .int a0, .int a1, .int a2, .int a3]) ++ List.replicate (7 - (lg_sl ([.ref m0, .int a0, .int a1, .int a2, .int a3])).length) Slot.unset).toArray = ls at hl ⊢
  have hl : lv_has ls 7 [(0, .ref m0), (1, .int a0), (2, .int a1), (3, .int a2), (4, .int a3)] := hl
  refine lv_aload_n hx hb dX12_route_0 rfl (lv_at hl 0 rfl) ?_
  refine lv_iload_n hx hb dX12_route_1 rfl (lv_at hl 1 rfl) ?_
  refine lv_iconst (v := 2) hx hb dX12_route_2 (by decide) ?_
  have hPc := hP.sub (ws' := [(m0, .inr (12, mM kd gw fa gM 0 0 0 0 0 0 0 0 th))]) [0] rfl
  have hDc := hD.sub (ws' := [(m0, .inr (12, mM kd gw fa gM 0 0 0 0 0 0 0 0 th))]) [0] (by decide) rfl
  have hKc := hK.sub (tys' := []) [] rfl
  have hFc := roF hS hA
  refine va_calli (va_runV (As := [.int a0, .int 2]) (rest := []) ⟨hx, hb, hml, hown, hts⟩ (c_X12_isKind l dC dI s.heap.size m0 kd gw fa gM th a0 2) (cwV 2 hts (gV u_1494 u_1496 v_59 u_14 u_1497) rfl rfl rfl (by decide +kernel) ⟨Nat.le_of_ble_eq_true rfl, Nat.le_of_ble_eq_true rfl⟩) ⟨gP_blind, va_recv hKc hPc (ci := 12) (q0 := 0) rfl rfl, gP_call hPc hKc hDc hE⟩ rfl rfl hl.1 rfl (lv_room (Nat.le_of_ble_eq_true rfl)) dX12_route_3 ⟨(Nat.le_of_ble_eq_true rfl), (Nat.le_of_ble_eq_true rfl)⟩) hS (fun q _ h => hFc q h) hFc (fun r192 u9 t9 H191 locs ht hvm hw hB hz1 hk1 hS => ?_)
  have hP := roP hP hk1
  subst hw
  refine lv_if_eq (tgt := 38) hx hb dX12_route_6 (by decide) (fun _ => ?_) (fun h9 => absurd (by decide) h9)
  refine lv_iconst (v := 0) hx hb dX12_route_38 (by decide) ?_
  refine lv_istore (lv' := [(5, .int 0), (0, .ref m0), (1, .int a0), (2, .int a1), (3, .int a2), (4, .int a3)]) hx hb dX12_route_39 hl (by decide) rfl (fun ls hl => ?_)
  refine lv_aload_n hx hb dX12_route_41 rfl (lv_at hl 1 rfl) ?_
  refine lv_aload_n hx hb dX12_route_42 rfl (lv_at hl 1 rfl) ?_
  refine lv_iload_n hx hb dX12_route_43 rfl (lv_at hl 2 rfl) ?_
  have hPc := hP.sub (ws' := [(m0, .inr (12, mM kd gw fa gM 0 0 0 0 0 0 0 0 th))]) [0] rfl
  have hDc := hD.sub (ws' := [(m0, .inr (12, mM kd gw fa gM 0 0 0 0 0 0 0 0 th))]) [0] (by decide) rfl
  have hKc := hK.sub (tys' := []) [] rfl
  have hFc := roF hS hA
  refine va_calli (va_runV (As := [.int a0]) (rest := [.ref m0]) ⟨hx, hb, hml, hown, hts⟩ (c_X12_isBox l dC dI H191.size m0 kd gw fa gM th a0) (cwV 1 hts (gV u_1415 u_1417 v_46 u_14 u_1418) rfl rfl rfl (by decide +kernel) ⟨Nat.le_of_ble_eq_true rfl, Nat.le_of_ble_eq_true rfl⟩) ⟨gP_blind, va_recv hKc hPc (ci := 12) (q0 := 0) rfl rfl, gP_call hPc hKc hDc hE⟩ rfl rfl hl.1 rfl (lv_room (Nat.le_of_ble_eq_true rfl)) dX12_route_44 ⟨(Nat.le_of_ble_eq_true rfl), (Nat.le_of_ble_eq_true rfl)⟩) hS (fun q _ h => hFc q h) hFc (fun r194 u9 t9 H193 locs ht hvm hw hB hz1 hk1 hS => ?_)
  have hP := roP hP hk1
  subst hw
  refine lv_if_ne (tgt := 54) hx hb dX12_route_47 (by decide) (fun h9 => absurd (by decide) h9) (fun _ => ?_)
  refine lv_iconst (v := 1) hx hb dX12_route_50 (by decide) ?_
  refine lv_goto (tgt := 79) hx hb dX12_route_51 (by decide) ?_
  have hPc := hP.sub (ws' := [(m0, .inr (12, mM kd gw fa gM 0 0 0 0 0 0 0 0 th))]) [0] rfl
  have hDc := hD.sub (ws' := [(m0, .inr (12, mM kd gw fa gM 0 0 0 0 0 0 0 0 th))]) [0] (by decide) rfl
  have hKc := hK.sub (tys' := []) [] rfl
  have hFc := va_free (wc := [(m0, .inr (12, mM kd gw fa gM 0 0 0 0 0 0 0 0 th))]) hD hS hA [0] rfl
  refine va_calli (va_runV (As := [.int 1]) (rest := []) ⟨hx, hb, hml, hown, hts⟩ (c_X12_can l dC dI H193.size m0 kd gw fa gM th 1) (cwV 1 hts (gV u_1403 u_1405 v_44 u_14 u_1406) rfl rfl rfl (by decide +kernel) ⟨Nat.le_of_ble_eq_true rfl, Nat.le_of_ble_eq_true rfl⟩) ⟨gP_blind, va_recv hKc hPc (ci := 12) (q0 := 0) rfl rfl, gP_call hPc hKc hDc hE⟩ rfl rfl hl.1 rfl (lv_room (Nat.le_of_ble_eq_true rfl)) dX12_route_79 ⟨(Nat.le_of_ble_eq_true rfl), (Nat.le_of_ble_eq_true rfl)⟩) hS (fun q _ h => hFc q h) hFc (fun r196 u9 t9 H195 locs ht hvm hw hB hz1 hk1 hS => ?_)
  obtain ⟨hP1, hK1, hD1⟩ := hB
  rw [ht] at hP1
  have hK1 := va_K.moved hvm.symm hK1
  obtain ⟨hP, hD⟩ := va_join (wr := []) (w1 := [(m0, .inr (12, mM kd gw fa gM 0 0 0 0 0 0 0 0 1))]) hP hD [0] [] rfl rfl (by decide) (by decide) hk1 hFc hP1 hD1
  have hK := (hK.sub (tys' := []) [] rfl).app hK1
  have hK : va_K (dC, dI) vwCl [] s := hK
  have hP : va_P (dC, dI) vwCl [(m0, .inr (12, mM kd gw fa gM 0 0 0 0 0 0 0 0 1))] H195 := hP
  have hD : va_D A [(m0, .inr (12, mM kd gw fa gM 0 0 0 0 0 0 0 0 1))] := hD
  subst hw
  rw [show gCan 1 = 0 from by decide]
  refine lv_if_ne (tgt := 87) hx hb dX12_route_82 (by decide) (fun h9 => absurd (by decide) h9) (fun _ => ?_)
  refine lv_iconst (v := 0) hx hb dX12_route_85 (by decide) ?_
  refine W.widen (k := 0) (n := 0) (Nat.le_of_ble_eq_true rfl) (Nat.le_of_ble_eq_true rfl) ?_
  exact W.iret (v := 0) hx hb hr (fun t ht hW => ⟨⟨0, (), rfl, rfl, ⟨by rw [ht]; exact hP, va_K.moved hW.alike hK, hD⟩⟩, hS.F ht⟩) hS.2.2 dX12_route_86
set_option maxHeartbeats 4000000 in
set_option maxRecDepth 100000 in
theorem c_X12_rule (l : Launch) (dC : Nat → ClassId) (dI : Nat → Nat → Nat) (sz : Nat) (m0 : Nat) (kd : Nat) (gw : Nat) (fa : Nat) (gM : Nat → Nat) (th : Int32) (a0 : Int32) (a1 : Int32) (a2 : Int32) (a3 : Int32) (a4 : Int32) (a5 : Int32) (a6 : Int32) : Met l yX12_rule (Cond.code yX12_rule cX12_rule 10 (some .int) :: gU) ({ frames := 3, cells := 0, slots := 0, locals := 65 }) (gP dC dI sz [(m0, .inr (12, mM kd gw fa gM 0 0 0 0 0 0 0 0 th))] [] [.ref m0, .int a0, .int a1, .int a2, .int a3, .int a4, .int a5, .int a6]) (va_Qi (fun (r : Int32) (_ : Unit) => r = 0) (fun (_ : Unit) (t9 : State) => va_P (dC, dI) vwCl [(m0, .inr (12, mM kd gw fa gM 0 0 0 0 0 0 0 0 1))] t9.heap ∧ va_K (dC, dI) vwCl [] t9 ∧ va_D (va_A [(m0, .inr (12, mM kd gw fa gM 0 0 0 0 0 0 0 0 th))] sz) [(m0, .inr (12, mM kd gw fa gM 0 0 0 0 0 0 0 0 1))]) (va_A [(m0, .inr (12, mM kd gw fa gM 0 0 0 0 0 0 0 0 th))] sz)) 0 0 (va_A [(m0, .inr (12, mM kd gw fa gM 0 0 0 0 0 0 0 0 th))] sz) := by
  refine Met.ofW (cc := cX12_rule) (maxL := 10) (ret := (some .int)) (by decide) rfl ?_
  intro p e s m args below meth c s₁ B hml hv
  obtain ⟨rfl, hsz, hP, hK, hD0, hE⟩ := hv
  have hx := B.exec
  have hb := B.bytes
  have hr := B.returns
  have hts0 := atoms_spec (ws := Cond.code yX12_rule cX12_rule 10 (some .int) :: gU) B.pre
  have hts : ∀ w ∈ gU, w.before _ s = true := fun w h => hts0 w (List.mem_cons_of_mem _ h)
  have hown : s.vm.findClass RX12 = some m.cls := findClass_of_methodNamed B.named
  have hlocks := B.notSynchronized
  subst hsz
  have hD := hD0.self (sz := s.heap.size)
  generalize hAe : va_A [(m0, .inr (12, mM kd gw fa gM 0 0 0 0 0 0 0 0 th))] s.heap.size = A at hD ⊢
  have hA : ∀ q : Nat, s.heap.size ≤ q → A q := fun q h => by rw [← hAe]; exact Or.inr h
  have hS : va_S A s.heap s.heap [] := va_S.rf
  have hP : va_P (dC, dI) vwCl [(m0, .inr (12, mM kd gw fa gM 0 0 0 0 0 0 0 0 th))] s.heap := hP
  have hl := lv_entry ([.ref m0, .int a0, .int a1, .int a2, .int a3, .int a4, .int a5, .int a6]) (n := 10) (Nat.le_of_ble_eq_true rfl)
  rw [lg_entry_eq]
  generalize (lg_sl ([.ref m0, .int a0, .int a1, .int a2, .int a3, .int a4, .int a5, .int a6]) ++ List.replicate (10 - (lg_sl ([.ref m0, .int a0, .int a1, .int a2, .int a3, .int a4, .int a5, .int a6])).length) Slot.unset).toArray = ls at hl ⊢
  have hl : lv_has ls 10 [(0, .ref m0), (1, .int a0), (2, .int a1), (3, .int a2), (4, .int a3), (5, .int a4), (6, .int a5), (7, .int a6)] := hl
  refine lv_aload_n hx hb dX12_rule_0 rfl (lv_at hl 0 rfl) ?_
  refine lv_iload_n hx hb dX12_rule_1 rfl (lv_at hl 1 rfl) ?_
  refine lv_iconst (v := 2) hx hb dX12_rule_2 (by decide) ?_
  have hPc := hP.sub (ws' := [(m0, .inr (12, mM kd gw fa gM 0 0 0 0 0 0 0 0 th))]) [0] rfl
  have hDc := hD.sub (ws' := [(m0, .inr (12, mM kd gw fa gM 0 0 0 0 0 0 0 0 th))]) [0] (by decide) rfl
  have hKc := hK.sub (tys' := []) [] rfl
  have hFc := roF hS hA
  refine va_calli (va_runV (As := [.int a0, .int 2]) (rest := []) ⟨hx, hb, hml, hown, hts⟩ (c_X12_isKind l dC dI s.heap.size m0 kd gw fa gM th a0 2) (cwV 2 hts (gV u_1494 u_1496 v_59 u_14 u_1497) rfl rfl rfl (by decide +kernel) ⟨Nat.le_of_ble_eq_true rfl, Nat.le_of_ble_eq_true rfl⟩) ⟨gP_blind, va_recv hKc hPc (ci := 12) (q0 := 0) rfl rfl, gP_call hPc hKc hDc hE⟩ rfl rfl hl.1 rfl (lv_room (Nat.le_of_ble_eq_true rfl)) dX12_rule_3 ⟨(Nat.le_of_ble_eq_true rfl), (Nat.le_of_ble_eq_true rfl)⟩) hS (fun q _ h => hFc q h) hFc (fun r198 u9 t9 H197 locs ht hvm hw hB hz1 hk1 hS => ?_)
  have hP := roP hP hk1
  subst hw
  refine lv_if_eq (tgt := 59) hx hb dX12_rule_6 (by decide) (fun _ => ?_) (fun h9 => absurd (by decide) h9)
  refine lv_iconst (v := 0) hx hb dX12_rule_59 (by decide) ?_
  refine lv_istore (lv' := [(8, .int 0), (0, .ref m0), (1, .int a0), (2, .int a1), (3, .int a2), (4, .int a3), (5, .int a4), (6, .int a5), (7, .int a6)]) hx hb dX12_rule_60 hl (by decide) rfl (fun ls hl => ?_)
  refine lv_aload_n hx hb dX12_rule_62 rfl (lv_at hl 1 rfl) ?_
  refine lv_aload_n hx hb dX12_rule_63 rfl (lv_at hl 1 rfl) ?_
  refine lv_iload_n hx hb dX12_rule_64 rfl (lv_at hl 2 rfl) ?_
  have hPc := hP.sub (ws' := [(m0, .inr (12, mM kd gw fa gM 0 0 0 0 0 0 0 0 th))]) [0] rfl
  have hDc := hD.sub (ws' := [(m0, .inr (12, mM kd gw fa gM 0 0 0 0 0 0 0 0 th))]) [0] (by decide) rfl
  have hKc := hK.sub (tys' := []) [] rfl
  have hFc := roF hS hA
  refine va_calli (va_runV (As := [.int a0]) (rest := [.ref m0]) ⟨hx, hb, hml, hown, hts⟩ (c_X12_isBox l dC dI H197.size m0 kd gw fa gM th a0) (cwV 1 hts (gV u_1415 u_1417 v_46 u_14 u_1418) rfl rfl rfl (by decide +kernel) ⟨Nat.le_of_ble_eq_true rfl, Nat.le_of_ble_eq_true rfl⟩) ⟨gP_blind, va_recv hKc hPc (ci := 12) (q0 := 0) rfl rfl, gP_call hPc hKc hDc hE⟩ rfl rfl hl.1 rfl (lv_room (Nat.le_of_ble_eq_true rfl)) dX12_rule_65 ⟨(Nat.le_of_ble_eq_true rfl), (Nat.le_of_ble_eq_true rfl)⟩) hS (fun q _ h => hFc q h) hFc (fun r200 u9 t9 H199 locs ht hvm hw hB hz1 hk1 hS => ?_)
  have hP := roP hP hk1
  subst hw
  refine lv_if_ne (tgt := 75) hx hb dX12_rule_68 (by decide) (fun h9 => absurd (by decide) h9) (fun _ => ?_)
  refine lv_iconst (v := 1) hx hb dX12_rule_71 (by decide) ?_
  refine lv_goto (tgt := 100) hx hb dX12_rule_72 (by decide) ?_
  have hPc := hP.sub (ws' := [(m0, .inr (12, mM kd gw fa gM 0 0 0 0 0 0 0 0 th))]) [0] rfl
  have hDc := hD.sub (ws' := [(m0, .inr (12, mM kd gw fa gM 0 0 0 0 0 0 0 0 th))]) [0] (by decide) rfl
  have hKc := hK.sub (tys' := []) [] rfl
  have hFc := va_free (wc := [(m0, .inr (12, mM kd gw fa gM 0 0 0 0 0 0 0 0 th))]) hD hS hA [0] rfl
  refine va_calli (va_runV (As := [.int 1]) (rest := []) ⟨hx, hb, hml, hown, hts⟩ (c_X12_can l dC dI H199.size m0 kd gw fa gM th 1) (cwV 1 hts (gV u_1403 u_1405 v_44 u_14 u_1406) rfl rfl rfl (by decide +kernel) ⟨Nat.le_of_ble_eq_true rfl, Nat.le_of_ble_eq_true rfl⟩) ⟨gP_blind, va_recv hKc hPc (ci := 12) (q0 := 0) rfl rfl, gP_call hPc hKc hDc hE⟩ rfl rfl hl.1 rfl (lv_room (Nat.le_of_ble_eq_true rfl)) dX12_rule_100 ⟨(Nat.le_of_ble_eq_true rfl), (Nat.le_of_ble_eq_true rfl)⟩) hS (fun q _ h => hFc q h) hFc (fun r202 u9 t9 H201 locs ht hvm hw hB hz1 hk1 hS => ?_)
  obtain ⟨hP1, hK1, hD1⟩ := hB
  rw [ht] at hP1
  have hK1 := va_K.moved hvm.symm hK1
  obtain ⟨hP, hD⟩ := va_join (wr := []) (w1 := [(m0, .inr (12, mM kd gw fa gM 0 0 0 0 0 0 0 0 1))]) hP hD [0] [] rfl rfl (by decide) (by decide) hk1 hFc hP1 hD1
  have hK := (hK.sub (tys' := []) [] rfl).app hK1
  have hK : va_K (dC, dI) vwCl [] s := hK
  have hP : va_P (dC, dI) vwCl [(m0, .inr (12, mM kd gw fa gM 0 0 0 0 0 0 0 0 1))] H201 := hP
  have hD : va_D A [(m0, .inr (12, mM kd gw fa gM 0 0 0 0 0 0 0 0 1))] := hD
  subst hw
  rw [show gCan 1 = 0 from by decide]
  refine lv_if_ne (tgt := 108) hx hb dX12_rule_103 (by decide) (fun h9 => absurd (by decide) h9) (fun _ => ?_)
  refine lv_iconst (v := 0) hx hb dX12_rule_106 (by decide) ?_
  refine W.widen (k := 0) (n := 0) (Nat.le_of_ble_eq_true rfl) (Nat.le_of_ble_eq_true rfl) ?_
  exact W.iret (v := 0) hx hb hr (fun t ht hW => ⟨⟨0, (), rfl, rfl, ⟨by rw [ht]; exact hP, va_K.moved hW.alike hK, hD⟩⟩, hS.F ht⟩) hS.2.2 dX12_rule_107
set_option maxHeartbeats 4000000 in
set_option maxRecDepth 100000 in
theorem c_X12_watch (l : Launch) (dC : Nat → ClassId) (dI : Nat → Nat → Nat) (sz : Nat) (m0 : Nat) (kd : Nat) (gw : Nat) (fa : Nat) (gM : Nat → Nat) (th : Int32) (a0 : Int32) (a1 : Int32) : Met l yX12_watch (Cond.code yX12_watch cX12_watch 4 (some .boolean) :: gU) ({ frames := 2, cells := 0, slots := 0, locals := 43 }) (gP dC dI sz [(m0, .inr (12, mM kd gw fa gM 0 0 0 0 0 0 0 0 th))] [] [.ref m0, .int a0, .int a1]) (va_Qi (fun (r : Int32) (_ : Unit) => r = 0) (fun (_ : Unit) (t9 : State) => va_P (dC, dI) vwCl [(m0, .inr (12, mM kd gw fa gM 0 0 0 0 0 0 0 0 1))] t9.heap ∧ va_K (dC, dI) vwCl [] t9 ∧ va_D (va_A [(m0, .inr (12, mM kd gw fa gM 0 0 0 0 0 0 0 0 th))] sz) [(m0, .inr (12, mM kd gw fa gM 0 0 0 0 0 0 0 0 1))]) (va_A [(m0, .inr (12, mM kd gw fa gM 0 0 0 0 0 0 0 0 th))] sz)) 0 0 (va_A [(m0, .inr (12, mM kd gw fa gM 0 0 0 0 0 0 0 0 th))] sz) := by
  refine Met.ofW (cc := cX12_watch) (maxL := 4) (ret := (some .boolean)) (by decide) rfl ?_
  intro p e s m args below meth c s₁ B hml hv
  obtain ⟨rfl, hsz, hP, hK, hD0, hE⟩ := hv
  have hx := B.exec
  have hb := B.bytes
  have hr := B.returns
  have hts0 := atoms_spec (ws := Cond.code yX12_watch cX12_watch 4 (some .boolean) :: gU) B.pre
  have hts : ∀ w ∈ gU, w.before _ s = true := fun w h => hts0 w (List.mem_cons_of_mem _ h)
  have hown : s.vm.findClass RX12 = some m.cls := findClass_of_methodNamed B.named
  have hlocks := B.notSynchronized
  subst hsz
  have hD := hD0.self (sz := s.heap.size)
  generalize hAe : va_A [(m0, .inr (12, mM kd gw fa gM 0 0 0 0 0 0 0 0 th))] s.heap.size = A at hD ⊢
  have hA : ∀ q : Nat, s.heap.size ≤ q → A q := fun q h => by rw [← hAe]; exact Or.inr h
  have hS : va_S A s.heap s.heap [] := va_S.rf
  have hP : va_P (dC, dI) vwCl [(m0, .inr (12, mM kd gw fa gM 0 0 0 0 0 0 0 0 th))] s.heap := hP
  have hl := lv_entry ([.ref m0, .int a0, .int a1]) (n := 4) (Nat.le_of_ble_eq_true rfl)
  rw [lg_entry_eq]
  generalize (lg_sl ([.ref m0, .int a0, .int a1]) ++ List.replicate (4 - (lg_sl ([.ref m0, .int a0, .int a1])).length) Slot.unset).toArray = ls at hl ⊢
  have hl : lv_has ls 4 [(0, .ref m0), (1, .int a0), (2, .int a1)] := hl
  refine lv_aload_n hx hb dX12_watch_0 rfl (lv_at hl 0 rfl) ?_
  refine lv_aload_n hx hb dX12_watch_1 rfl (lv_at hl 0 rfl) ?_
  refine lv_iload_n hx hb dX12_watch_2 rfl (lv_at hl 1 rfl) ?_
  have hPc := hP.sub (ws' := [(m0, .inr (12, mM kd gw fa gM 0 0 0 0 0 0 0 0 th))]) [0] rfl
  have hDc := hD.sub (ws' := [(m0, .inr (12, mM kd gw fa gM 0 0 0 0 0 0 0 0 th))]) [0] (by decide) rfl
  have hKc := hK.sub (tys' := []) [] rfl
  have hFc := roF hS hA
  refine va_calli (va_runV (As := [.int a0]) (rest := [.ref m0]) ⟨hx, hb, hml, hown, hts⟩ (c_X12_isBox l dC dI s.heap.size m0 kd gw fa gM th a0) (cwV 1 hts (gV u_1415 u_1417 v_46 u_14 u_1418) rfl rfl rfl (by decide +kernel) ⟨Nat.le_of_ble_eq_true rfl, Nat.le_of_ble_eq_true rfl⟩) ⟨gP_blind, va_recv hKc hPc (ci := 12) (q0 := 0) rfl rfl, gP_call hPc hKc hDc hE⟩ rfl rfl hl.1 rfl (lv_room (Nat.le_of_ble_eq_true rfl)) dX12_watch_3 ⟨(Nat.le_of_ble_eq_true rfl), (Nat.le_of_ble_eq_true rfl)⟩) hS (fun q _ h => hFc q h) hFc (fun r204 u9 t9 H203 locs ht hvm hw hB hz1 hk1 hS => ?_)
  have hP := roP hP hk1
  subst hw
  refine lv_if_ne (tgt := 13) hx hb dX12_watch_6 (by decide) (fun h9 => absurd (by decide) h9) (fun _ => ?_)
  refine lv_iconst (v := 1) hx hb dX12_watch_9 (by decide) ?_
  refine lv_goto (tgt := 27) hx hb dX12_watch_10 (by decide) ?_
  have hPc := hP.sub (ws' := [(m0, .inr (12, mM kd gw fa gM 0 0 0 0 0 0 0 0 th))]) [0] rfl
  have hDc := hD.sub (ws' := [(m0, .inr (12, mM kd gw fa gM 0 0 0 0 0 0 0 0 th))]) [0] (by decide) rfl
  have hKc := hK.sub (tys' := []) [] rfl
  have hFc := va_free (wc := [(m0, .inr (12, mM kd gw fa gM 0 0 0 0 0 0 0 0 th))]) hD hS hA [0] rfl
  refine va_calli (va_runV (As := [.int 1]) (rest := []) ⟨hx, hb, hml, hown, hts⟩ (c_X12_can l dC dI H203.size m0 kd gw fa gM th 1) (cwV 1 hts (gV u_1403 u_1405 v_44 u_14 u_1406) rfl rfl rfl (by decide +kernel) ⟨Nat.le_of_ble_eq_true rfl, Nat.le_of_ble_eq_true rfl⟩) ⟨gP_blind, va_recv hKc hPc (ci := 12) (q0 := 0) rfl rfl, gP_call hPc hKc hDc hE⟩ rfl rfl hl.1 rfl (lv_room (Nat.le_of_ble_eq_true rfl)) dX12_watch_27 ⟨(Nat.le_of_ble_eq_true rfl), (Nat.le_of_ble_eq_true rfl)⟩) hS (fun q _ h => hFc q h) hFc (fun r206 u9 t9 H205 locs ht hvm hw hB hz1 hk1 hS => ?_)
  obtain ⟨hP1, hK1, hD1⟩ := hB
  rw [ht] at hP1
  have hK1 := va_K.moved hvm.symm hK1
  obtain ⟨hP, hD⟩ := va_join (wr := []) (w1 := [(m0, .inr (12, mM kd gw fa gM 0 0 0 0 0 0 0 0 1))]) hP hD [0] [] rfl rfl (by decide) (by decide) hk1 hFc hP1 hD1
  have hK := (hK.sub (tys' := []) [] rfl).app hK1
  have hK : va_K (dC, dI) vwCl [] s := hK
  have hP : va_P (dC, dI) vwCl [(m0, .inr (12, mM kd gw fa gM 0 0 0 0 0 0 0 0 1))] H205 := hP
  have hD : va_D A [(m0, .inr (12, mM kd gw fa gM 0 0 0 0 0 0 0 0 1))] := hD
  subst hw
  rw [show gCan 1 = 0 from by decide]
  refine lv_if_ne (tgt := 35) hx hb dX12_watch_30 (by decide) (fun h9 => absurd (by decide) h9) (fun _ => ?_)
  refine lv_iconst (v := 0) hx hb dX12_watch_33 (by decide) ?_
  refine W.widen (k := 0) (n := 0) (Nat.le_of_ble_eq_true rfl) (Nat.le_of_ble_eq_true rfl) ?_
  exact W.zret (v := 0) hx hb hr (by decide) (fun t ht hW => ⟨⟨0, (), rfl, rfl, ⟨by rw [ht]; exact hP, va_K.moved hW.alike hK, hD⟩⟩, hS.F ht⟩) hS.2.2 dX12_watch_34
set_option maxHeartbeats 4000000 in
set_option maxRecDepth 100000 in
theorem c_X12_pool (l : Launch) (dC : Nat → ClassId) (dI : Nat → Nat → Nat) (sz : Nat) (m0 : Nat) (kd : Nat) (gw : Nat) (fa : Nat) (gM : Nat → Nat) (th : Int32) (a0 : Int32) (a1 : Int32) (a2 : Int32) : Met l yX12_pool (Cond.code yX12_pool cX12_pool 8 (some .int) :: gU) ({ frames := 3, cells := 0, slots := 0, locals := 64 }) (gP dC dI sz [(m0, .inr (12, mM kd gw fa gM 0 0 0 0 0 0 0 0 th))] [] [.ref m0, .int a0, .int a1, .int a2]) (va_Qi (fun (r : Int32) (_ : Unit) => r = 0) (fun (_ : Unit) (t9 : State) => va_P (dC, dI) vwCl [(m0, .inr (12, mM kd gw fa gM 0 0 0 0 0 0 0 0 1))] t9.heap ∧ va_K (dC, dI) vwCl [] t9 ∧ va_D (va_A [(m0, .inr (12, mM kd gw fa gM 0 0 0 0 0 0 0 0 th))] sz) [(m0, .inr (12, mM kd gw fa gM 0 0 0 0 0 0 0 0 1))]) (va_A [(m0, .inr (12, mM kd gw fa gM 0 0 0 0 0 0 0 0 th))] sz)) 0 0 (va_A [(m0, .inr (12, mM kd gw fa gM 0 0 0 0 0 0 0 0 th))] sz) := by
  refine Met.ofW (cc := cX12_pool) (maxL := 8) (ret := (some .int)) (by decide) rfl ?_
  intro p e s m args below meth c s₁ B hml hv
  obtain ⟨rfl, hsz, hP, hK, hD0, hE⟩ := hv
  have hx := B.exec
  have hb := B.bytes
  have hr := B.returns
  have hts0 := atoms_spec (ws := Cond.code yX12_pool cX12_pool 8 (some .int) :: gU) B.pre
  have hts : ∀ w ∈ gU, w.before _ s = true := fun w h => hts0 w (List.mem_cons_of_mem _ h)
  have hown : s.vm.findClass RX12 = some m.cls := findClass_of_methodNamed B.named
  have hlocks := B.notSynchronized
  subst hsz
  have hD := hD0.self (sz := s.heap.size)
  generalize hAe : va_A [(m0, .inr (12, mM kd gw fa gM 0 0 0 0 0 0 0 0 th))] s.heap.size = A at hD ⊢
  have hA : ∀ q : Nat, s.heap.size ≤ q → A q := fun q h => by rw [← hAe]; exact Or.inr h
  have hS : va_S A s.heap s.heap [] := va_S.rf
  have hP : va_P (dC, dI) vwCl [(m0, .inr (12, mM kd gw fa gM 0 0 0 0 0 0 0 0 th))] s.heap := hP
  have hl := lv_entry ([.ref m0, .int a0, .int a1, .int a2]) (n := 8) (Nat.le_of_ble_eq_true rfl)
  rw [lg_entry_eq]
  generalize (lg_sl ([.ref m0, .int a0, .int a1, .int a2]) ++ List.replicate (8 - (lg_sl ([.ref m0, .int a0, .int a1, .int a2])).length) Slot.unset).toArray = ls at hl ⊢
  have hl : lv_has ls 8 [(0, .ref m0), (1, .int a0), (2, .int a1), (3, .int a2)] := hl
  refine lv_aload_n hx hb dX12_pool_0 rfl (lv_at hl 0 rfl) ?_
  refine lv_iload_n hx hb dX12_pool_1 rfl (lv_at hl 1 rfl) ?_
  have hPc := hP.sub (ws' := [(m0, .inr (12, mM kd gw fa gM 0 0 0 0 0 0 0 0 th))]) [0] rfl
  have hDc := hD.sub (ws' := [(m0, .inr (12, mM kd gw fa gM 0 0 0 0 0 0 0 0 th))]) [0] (by decide) rfl
  have hKc := hK.sub (tys' := []) [] rfl
  have hFc := roF hS hA
  refine va_calli (va_runV (As := [.int a0]) (rest := []) ⟨hx, hb, hml, hown, hts⟩ (c_X12_isPort l dC dI s.heap.size m0 kd gw fa gM th a0) (cwV 1 hts (gV u_1411 u_1413 v_45 u_14 u_1414) rfl rfl rfl (by decide +kernel) ⟨Nat.le_of_ble_eq_true rfl, Nat.le_of_ble_eq_true rfl⟩) ⟨gP_blind, va_recv hKc hPc (ci := 12) (q0 := 0) rfl rfl, gP_call hPc hKc hDc hE⟩ rfl rfl hl.1 rfl (lv_room (Nat.le_of_ble_eq_true rfl)) dX12_pool_2 ⟨(Nat.le_of_ble_eq_true rfl), (Nat.le_of_ble_eq_true rfl)⟩) hS (fun q _ h => hFc q h) hFc (fun r208 u9 t9 H207 locs ht hvm hw hB hz1 hk1 hS => ?_)
  have hP := roP hP hk1
  subst hw
  refine lv_istore (lv' := [(4, .int 0), (0, .ref m0), (1, .int a0), (2, .int a1), (3, .int a2)]) hx hb dX12_pool_5 hl (by decide) rfl (fun ls hl => ?_)
  refine lv_iload hx hb dX12_pool_7 (lv_at hl 0 rfl) ?_
  refine lv_if_eq (tgt := 49) hx hb dX12_pool_9 (by decide) (fun _ => ?_) (fun h9 => absurd (by decide) h9)
  refine lv_iconst (v := 0) hx hb dX12_pool_49 (by decide) ?_
  refine lv_istore (lv' := [(5, .int 0), (4, .int 0), (0, .ref m0), (1, .int a0), (2, .int a1), (3, .int a2)]) hx hb dX12_pool_50 hl (by decide) rfl (fun ls hl => ?_)
  refine lv_aload_n hx hb dX12_pool_52 rfl (lv_at hl 2 rfl) ?_
  refine lv_iload hx hb dX12_pool_53 (lv_at hl 1 rfl) ?_
  refine lv_if_ne (tgt := 62) hx hb dX12_pool_55 (by decide) (fun h9 => absurd (by decide) h9) (fun _ => ?_)
  refine lv_iconst (v := 1) hx hb dX12_pool_58 (by decide) ?_
  refine lv_goto (tgt := 72) hx hb dX12_pool_59 (by decide) ?_
  have hPc := hP.sub (ws' := [(m0, .inr (12, mM kd gw fa gM 0 0 0 0 0 0 0 0 th))]) [0] rfl
  have hDc := hD.sub (ws' := [(m0, .inr (12, mM kd gw fa gM 0 0 0 0 0 0 0 0 th))]) [0] (by decide) rfl
  have hKc := hK.sub (tys' := []) [] rfl
  have hFc := va_free (wc := [(m0, .inr (12, mM kd gw fa gM 0 0 0 0 0 0 0 0 th))]) hD hS hA [0] rfl
  refine va_calli (va_runV (As := [.int 1]) (rest := []) ⟨hx, hb, hml, hown, hts⟩ (c_X12_can l dC dI H207.size m0 kd gw fa gM th 1) (cwV 1 hts (gV u_1403 u_1405 v_44 u_14 u_1406) rfl rfl rfl (by decide +kernel) ⟨Nat.le_of_ble_eq_true rfl, Nat.le_of_ble_eq_true rfl⟩) ⟨gP_blind, va_recv hKc hPc (ci := 12) (q0 := 0) rfl rfl, gP_call hPc hKc hDc hE⟩ rfl rfl hl.1 rfl (lv_room (Nat.le_of_ble_eq_true rfl)) dX12_pool_72 ⟨(Nat.le_of_ble_eq_true rfl), (Nat.le_of_ble_eq_true rfl)⟩) hS (fun q _ h => hFc q h) hFc (fun r210 u9 t9 H209 locs ht hvm hw hB hz1 hk1 hS => ?_)
  obtain ⟨hP1, hK1, hD1⟩ := hB
  rw [ht] at hP1
  have hK1 := va_K.moved hvm.symm hK1
  obtain ⟨hP, hD⟩ := va_join (wr := []) (w1 := [(m0, .inr (12, mM kd gw fa gM 0 0 0 0 0 0 0 0 1))]) hP hD [0] [] rfl rfl (by decide) (by decide) hk1 hFc hP1 hD1
  have hK := (hK.sub (tys' := []) [] rfl).app hK1
  have hK : va_K (dC, dI) vwCl [] s := hK
  have hP : va_P (dC, dI) vwCl [(m0, .inr (12, mM kd gw fa gM 0 0 0 0 0 0 0 0 1))] H209 := hP
  have hD : va_D A [(m0, .inr (12, mM kd gw fa gM 0 0 0 0 0 0 0 0 1))] := hD
  subst hw
  rw [show gCan 1 = 0 from by decide]
  refine lv_if_ne (tgt := 80) hx hb dX12_pool_75 (by decide) (fun h9 => absurd (by decide) h9) (fun _ => ?_)
  refine lv_iconst (v := 0) hx hb dX12_pool_78 (by decide) ?_
  refine W.widen (k := 0) (n := 0) (Nat.le_of_ble_eq_true rfl) (Nat.le_of_ble_eq_true rfl) ?_
  exact W.iret (v := 0) hx hb hr (fun t ht hW => ⟨⟨0, (), rfl, rfl, ⟨by rw [ht]; exact hP, va_K.moved hW.alike hK, hD⟩⟩, hS.F ht⟩) hS.2.2 dX12_pool_79
set_option maxHeartbeats 4000000 in
set_option maxRecDepth 100000 in
theorem c_X12_send (l : Launch) (dC : Nat → ClassId) (dI : Nat → Nat → Nat) (sz : Nat) (m0 : Nat) (kd : Nat) (gw : Nat) (fa : Nat) (gM : Nat → Nat) (th : Int32) (a0 : Int32) (a1 : Int32) (a2 : Int32) : Met l yX12_send (Cond.code yX12_send cX12_send 8 (some .int) :: gU) ({ frames := 3, cells := 0, slots := 0, locals := 66 }) (gP dC dI sz [(m0, .inr (12, mM kd gw fa gM 0 0 0 0 0 0 0 0 th))] [] [.ref m0, .int a0, .int a1, .int a2]) (va_Qi (fun (r : Int32) (_ : Unit) => r = 0) (fun (_ : Unit) (t9 : State) => va_P (dC, dI) vwCl [(m0, .inr (12, mM kd gw fa gM 0 0 0 0 0 0 0 0 1))] t9.heap ∧ va_K (dC, dI) vwCl [] t9 ∧ va_D (va_A [(m0, .inr (12, mM kd gw fa gM 0 0 0 0 0 0 0 0 th))] sz) [(m0, .inr (12, mM kd gw fa gM 0 0 0 0 0 0 0 0 1))]) (va_A [(m0, .inr (12, mM kd gw fa gM 0 0 0 0 0 0 0 0 th))] sz)) 0 0 (va_A [(m0, .inr (12, mM kd gw fa gM 0 0 0 0 0 0 0 0 th))] sz) := by
  refine Met.ofW (cc := cX12_send) (maxL := 8) (ret := (some .int)) (by decide) rfl ?_
  intro p e s m args below meth c s₁ B hml hv
  obtain ⟨rfl, hsz, hP, hK, hD0, hE⟩ := hv
  have hx := B.exec
  have hb := B.bytes
  have hr := B.returns
  have hts0 := atoms_spec (ws := Cond.code yX12_send cX12_send 8 (some .int) :: gU) B.pre
  have hts : ∀ w ∈ gU, w.before _ s = true := fun w h => hts0 w (List.mem_cons_of_mem _ h)
  have hown : s.vm.findClass RX12 = some m.cls := findClass_of_methodNamed B.named
  have hlocks := B.notSynchronized
  subst hsz
  have hD := hD0.self (sz := s.heap.size)
  generalize hAe : va_A [(m0, .inr (12, mM kd gw fa gM 0 0 0 0 0 0 0 0 th))] s.heap.size = A at hD ⊢
  have hA : ∀ q : Nat, s.heap.size ≤ q → A q := fun q h => by rw [← hAe]; exact Or.inr h
  have hS : va_S A s.heap s.heap [] := va_S.rf
  have hP : va_P (dC, dI) vwCl [(m0, .inr (12, mM kd gw fa gM 0 0 0 0 0 0 0 0 th))] s.heap := hP
  have hl := lv_entry ([.ref m0, .int a0, .int a1, .int a2]) (n := 8) (Nat.le_of_ble_eq_true rfl)
  rw [lg_entry_eq]
  generalize (lg_sl ([.ref m0, .int a0, .int a1, .int a2]) ++ List.replicate (8 - (lg_sl ([.ref m0, .int a0, .int a1, .int a2])).length) Slot.unset).toArray = ls at hl ⊢
  have hl : lv_has ls 8 [(0, .ref m0), (1, .int a0), (2, .int a1), (3, .int a2)] := hl
  refine lv_aload_n hx hb dX12_send_0 rfl (lv_at hl 0 rfl) ?_
  refine lv_iload_n hx hb dX12_send_1 rfl (lv_at hl 1 rfl) ?_
  refine lv_iload_n hx hb dX12_send_2 rfl (lv_at hl 2 rfl) ?_
  refine lv_iload_n hx hb dX12_send_3 rfl (lv_at hl 3 rfl) ?_
  have hPc := hP.sub (ws' := [(m0, .inr (12, mM kd gw fa gM 0 0 0 0 0 0 0 0 th))]) [0] rfl
  have hDc := hD.sub (ws' := [(m0, .inr (12, mM kd gw fa gM 0 0 0 0 0 0 0 0 th))]) [0] (by decide) rfl
  have hKc := hK.sub (tys' := []) [] rfl
  have hFc := va_free (wc := [(m0, .inr (12, mM kd gw fa gM 0 0 0 0 0 0 0 0 th))]) hD hS hA [0] rfl
  refine va_calli (va_runV (As := [.int a0, .int a1, .int a2]) (rest := []) ⟨hx, hb, hml, hown, hts⟩ (c_X12_isSent l dC dI s.heap.size m0 kd gw fa gM th a0 a1 a2) (cwV 3 hts (gV u_1518 u_1520 v_60 u_14 u_1521) rfl rfl rfl (by decide +kernel) ⟨Nat.le_of_ble_eq_true rfl, Nat.le_of_ble_eq_true rfl⟩) ⟨gP_blind, va_recv hKc hPc (ci := 12) (q0 := 0) rfl rfl, gP_call hPc hKc hDc hE⟩ rfl rfl hl.1 rfl (lv_room (Nat.le_of_ble_eq_true rfl)) dX12_send_4 ⟨(Nat.le_of_ble_eq_true rfl), (Nat.le_of_ble_eq_true rfl)⟩) hS (fun q _ h => hFc q h) hFc (fun r212 u9 t9 H211 locs ht hvm hw hB hz1 hk1 hS => ?_)
  obtain ⟨hP1, hK1, hD1⟩ := hB
  rw [ht] at hP1
  have hK1 := va_K.moved hvm.symm hK1
  obtain ⟨hP, hD⟩ := va_join (wr := []) (w1 := [(m0, .inr (12, mM kd gw fa gM 0 0 0 0 0 0 0 0 1))]) hP hD [0] [] rfl rfl (by decide) (by decide) hk1 hFc hP1 hD1
  have hK := (hK.sub (tys' := []) [] rfl).app hK1
  have hK : va_K (dC, dI) vwCl [] s := hK
  have hP : va_P (dC, dI) vwCl [(m0, .inr (12, mM kd gw fa gM 0 0 0 0 0 0 0 0 1))] H211 := hP
  have hD : va_D A [(m0, .inr (12, mM kd gw fa gM 0 0 0 0 0 0 0 0 1))] := hD
  subst hw
  refine lv_if_eq (tgt := 31) hx hb dX12_send_7 (by decide) (fun _ => ?_) (fun h9 => absurd (by decide) h9)
  refine lv_iconst (v := 0) hx hb dX12_send_31 (by decide) ?_
  refine W.widen (k := 0) (n := 0) (Nat.le_of_ble_eq_true rfl) (Nat.le_of_ble_eq_true rfl) ?_
  exact W.iret (v := 0) hx hb hr (fun t ht hW => ⟨⟨0, (), rfl, rfl, ⟨by rw [ht]; exact hP, va_K.moved hW.alike hK, hD⟩⟩, hS.F ht⟩) hS.2.2 dX12_send_32
set_option maxHeartbeats 4000000 in
set_option maxRecDepth 100000 in
theorem c_X12_fate (l : Launch) (dC : Nat → ClassId) (dI : Nat → Nat → Nat) (sz : Nat) (m0 : Nat) (kd : Nat) (gw : Nat) (fa : Nat) (gM : Nat → Nat) (th : Int32) (a0 : Int32) : Met l yX12_fate (Cond.code yX12_fate cX12_fate 2 (some .int) :: gU) ({ frames := 2, cells := 0, slots := 0, locals := 43 }) (gP dC dI sz [(m0, .inr (12, mM kd gw fa gM 0 0 0 0 0 0 0 0 th))] [] [.ref m0, .int a0]) (va_Qi (fun (r : Int32) (_ : Unit) => r = 0) (fun (_ : Unit) (t9 : State) => va_P (dC, dI) vwCl [(m0, .inr (12, mM kd gw fa gM 0 0 0 0 0 0 0 0 1))] t9.heap ∧ va_K (dC, dI) vwCl [] t9 ∧ va_D (va_A [(m0, .inr (12, mM kd gw fa gM 0 0 0 0 0 0 0 0 th))] sz) [(m0, .inr (12, mM kd gw fa gM 0 0 0 0 0 0 0 0 1))]) (va_A [(m0, .inr (12, mM kd gw fa gM 0 0 0 0 0 0 0 0 th))] sz)) 0 0 (va_A [(m0, .inr (12, mM kd gw fa gM 0 0 0 0 0 0 0 0 th))] sz) := by
  refine Met.ofW (cc := cX12_fate) (maxL := 2) (ret := (some .int)) (by decide) rfl ?_
  intro p e s m args below meth c s₁ B hml hv
  obtain ⟨rfl, hsz, hP, hK, hD0, hE⟩ := hv
  have hx := B.exec
  have hb := B.bytes
  have hr := B.returns
  have hts0 := atoms_spec (ws := Cond.code yX12_fate cX12_fate 2 (some .int) :: gU) B.pre
  have hts : ∀ w ∈ gU, w.before _ s = true := fun w h => hts0 w (List.mem_cons_of_mem _ h)
  have hown : s.vm.findClass RX12 = some m.cls := findClass_of_methodNamed B.named
  have hlocks := B.notSynchronized
  subst hsz
  have hD := hD0.self (sz := s.heap.size)
  generalize hAe : va_A [(m0, .inr (12, mM kd gw fa gM 0 0 0 0 0 0 0 0 th))] s.heap.size = A at hD ⊢
  have hA : ∀ q : Nat, s.heap.size ≤ q → A q := fun q h => by rw [← hAe]; exact Or.inr h
  have hS : va_S A s.heap s.heap [] := va_S.rf
  have hP : va_P (dC, dI) vwCl [(m0, .inr (12, mM kd gw fa gM 0 0 0 0 0 0 0 0 th))] s.heap := hP
  have hl := lv_entry ([.ref m0, .int a0]) (n := 2) (Nat.le_of_ble_eq_true rfl)
  rw [lg_entry_eq]
  generalize (lg_sl ([.ref m0, .int a0]) ++ List.replicate (2 - (lg_sl ([.ref m0, .int a0])).length) Slot.unset).toArray = ls at hl ⊢
  have hl : lv_has ls 2 [(0, .ref m0), (1, .int a0)] := hl
  refine lv_aload_n hx hb dX12_fate_0 rfl (lv_at hl 0 rfl) ?_
  refine lv_iload_n hx hb dX12_fate_1 rfl (lv_at hl 1 rfl) ?_
  have hPc := hP.sub (ws' := [(m0, .inr (12, mM kd gw fa gM 0 0 0 0 0 0 0 0 th))]) [0] rfl
  have hDc := hD.sub (ws' := [(m0, .inr (12, mM kd gw fa gM 0 0 0 0 0 0 0 0 th))]) [0] (by decide) rfl
  have hKc := hK.sub (tys' := []) [] rfl
  have hFc := va_free (wc := [(m0, .inr (12, mM kd gw fa gM 0 0 0 0 0 0 0 0 th))]) hD hS hA [0] rfl
  refine va_calli (va_runV (As := [.int a0]) (rest := []) ⟨hx, hb, hml, hown, hts⟩ (c_X12_isPacket l dC dI s.heap.size m0 kd gw fa gM th a0) (cwV 1 hts (gV u_1635 u_1637 v_85 u_14 u_1638) rfl rfl rfl (by decide +kernel) ⟨Nat.le_of_ble_eq_true rfl, Nat.le_of_ble_eq_true rfl⟩) ⟨gP_blind, va_recv hKc hPc (ci := 12) (q0 := 0) rfl rfl, gP_call hPc hKc hDc hE⟩ rfl rfl hl.1 rfl (lv_room (Nat.le_of_ble_eq_true rfl)) dX12_fate_2 ⟨(Nat.le_of_ble_eq_true rfl), (Nat.le_of_ble_eq_true rfl)⟩) hS (fun q _ h => hFc q h) hFc (fun r214 u9 t9 H213 locs ht hvm hw hB hz1 hk1 hS => ?_)
  obtain ⟨hP1, hK1, hD1⟩ := hB
  rw [ht] at hP1
  have hK1 := va_K.moved hvm.symm hK1
  obtain ⟨hP, hD⟩ := va_join (wr := []) (w1 := [(m0, .inr (12, mM kd gw fa gM 0 0 0 0 0 0 0 0 1))]) hP hD [0] [] rfl rfl (by decide) (by decide) hk1 hFc hP1 hD1
  have hK := (hK.sub (tys' := []) [] rfl).app hK1
  have hK : va_K (dC, dI) vwCl [] s := hK
  have hP : va_P (dC, dI) vwCl [(m0, .inr (12, mM kd gw fa gM 0 0 0 0 0 0 0 0 1))] H213 := hP
  have hD : va_D A [(m0, .inr (12, mM kd gw fa gM 0 0 0 0 0 0 0 0 1))] := hD
  subst hw
  refine lv_if_eq (tgt := 17) hx hb dX12_fate_5 (by decide) (fun _ => ?_) (fun h9 => absurd (by decide) h9)
  refine lv_iconst (v := 0) hx hb dX12_fate_17 (by decide) ?_
  refine W.widen (k := 0) (n := 0) (Nat.le_of_ble_eq_true rfl) (Nat.le_of_ble_eq_true rfl) ?_
  exact W.iret (v := 0) hx hb hr (fun t ht hW => ⟨⟨0, (), rfl, rfl, ⟨by rw [ht]; exact hP, va_K.moved hW.alike hK, hD⟩⟩, hS.F ht⟩) hS.2.2 dX12_fate_18
set_option maxHeartbeats 4000000 in
set_option maxRecDepth 100000 in
theorem c_X12_where (l : Launch) (dC : Nat → ClassId) (dI : Nat → Nat → Nat) (sz : Nat) (m0 : Nat) (kd : Nat) (gw : Nat) (fa : Nat) (gM : Nat → Nat) (th : Int32) (a0 : Int32) : Met l yX12_where (Cond.code yX12_where cX12_where 2 (some .int) :: gU) ({ frames := 2, cells := 0, slots := 0, locals := 43 }) (gP dC dI sz [(m0, .inr (12, mM kd gw fa gM 0 0 0 0 0 0 0 0 th))] [] [.ref m0, .int a0]) (va_Qi (fun (r : Int32) (_ : Unit) => r = 0) (fun (_ : Unit) (t9 : State) => va_P (dC, dI) vwCl [(m0, .inr (12, mM kd gw fa gM 0 0 0 0 0 0 0 0 1))] t9.heap ∧ va_K (dC, dI) vwCl [] t9 ∧ va_D (va_A [(m0, .inr (12, mM kd gw fa gM 0 0 0 0 0 0 0 0 th))] sz) [(m0, .inr (12, mM kd gw fa gM 0 0 0 0 0 0 0 0 1))]) (va_A [(m0, .inr (12, mM kd gw fa gM 0 0 0 0 0 0 0 0 th))] sz)) 0 0 (va_A [(m0, .inr (12, mM kd gw fa gM 0 0 0 0 0 0 0 0 th))] sz) := by
  refine Met.ofW (cc := cX12_where) (maxL := 2) (ret := (some .int)) (by decide) rfl ?_
  intro p e s m args below meth c s₁ B hml hv
  obtain ⟨rfl, hsz, hP, hK, hD0, hE⟩ := hv
  have hx := B.exec
  have hb := B.bytes
  have hr := B.returns
  have hts0 := atoms_spec (ws := Cond.code yX12_where cX12_where 2 (some .int) :: gU) B.pre
  have hts : ∀ w ∈ gU, w.before _ s = true := fun w h => hts0 w (List.mem_cons_of_mem _ h)
  have hown : s.vm.findClass RX12 = some m.cls := findClass_of_methodNamed B.named
  have hlocks := B.notSynchronized
  subst hsz
  have hD := hD0.self (sz := s.heap.size)
  generalize hAe : va_A [(m0, .inr (12, mM kd gw fa gM 0 0 0 0 0 0 0 0 th))] s.heap.size = A at hD ⊢
  have hA : ∀ q : Nat, s.heap.size ≤ q → A q := fun q h => by rw [← hAe]; exact Or.inr h
  have hS : va_S A s.heap s.heap [] := va_S.rf
  have hP : va_P (dC, dI) vwCl [(m0, .inr (12, mM kd gw fa gM 0 0 0 0 0 0 0 0 th))] s.heap := hP
  have hl := lv_entry ([.ref m0, .int a0]) (n := 2) (Nat.le_of_ble_eq_true rfl)
  rw [lg_entry_eq]
  generalize (lg_sl ([.ref m0, .int a0]) ++ List.replicate (2 - (lg_sl ([.ref m0, .int a0])).length) Slot.unset).toArray = ls at hl ⊢
  have hl : lv_has ls 2 [(0, .ref m0), (1, .int a0)] := hl
  refine lv_aload_n hx hb dX12_where_0 rfl (lv_at hl 0 rfl) ?_
  refine lv_iload_n hx hb dX12_where_1 rfl (lv_at hl 1 rfl) ?_
  have hPc := hP.sub (ws' := [(m0, .inr (12, mM kd gw fa gM 0 0 0 0 0 0 0 0 th))]) [0] rfl
  have hDc := hD.sub (ws' := [(m0, .inr (12, mM kd gw fa gM 0 0 0 0 0 0 0 0 th))]) [0] (by decide) rfl
  have hKc := hK.sub (tys' := []) [] rfl
  have hFc := va_free (wc := [(m0, .inr (12, mM kd gw fa gM 0 0 0 0 0 0 0 0 th))]) hD hS hA [0] rfl
  refine va_calli (va_runV (As := [.int a0]) (rest := []) ⟨hx, hb, hml, hown, hts⟩ (c_X12_isPacket l dC dI s.heap.size m0 kd gw fa gM th a0) (cwV 1 hts (gV u_1635 u_1637 v_85 u_14 u_1638) rfl rfl rfl (by decide +kernel) ⟨Nat.le_of_ble_eq_true rfl, Nat.le_of_ble_eq_true rfl⟩) ⟨gP_blind, va_recv hKc hPc (ci := 12) (q0 := 0) rfl rfl, gP_call hPc hKc hDc hE⟩ rfl rfl hl.1 rfl (lv_room (Nat.le_of_ble_eq_true rfl)) dX12_where_2 ⟨(Nat.le_of_ble_eq_true rfl), (Nat.le_of_ble_eq_true rfl)⟩) hS (fun q _ h => hFc q h) hFc (fun r216 u9 t9 H215 locs ht hvm hw hB hz1 hk1 hS => ?_)
  obtain ⟨hP1, hK1, hD1⟩ := hB
  rw [ht] at hP1
  have hK1 := va_K.moved hvm.symm hK1
  obtain ⟨hP, hD⟩ := va_join (wr := []) (w1 := [(m0, .inr (12, mM kd gw fa gM 0 0 0 0 0 0 0 0 1))]) hP hD [0] [] rfl rfl (by decide) (by decide) hk1 hFc hP1 hD1
  have hK := (hK.sub (tys' := []) [] rfl).app hK1
  have hK : va_K (dC, dI) vwCl [] s := hK
  have hP : va_P (dC, dI) vwCl [(m0, .inr (12, mM kd gw fa gM 0 0 0 0 0 0 0 0 1))] H215 := hP
  have hD : va_D A [(m0, .inr (12, mM kd gw fa gM 0 0 0 0 0 0 0 0 1))] := hD
  subst hw
  refine lv_if_eq (tgt := 17) hx hb dX12_where_5 (by decide) (fun _ => ?_) (fun h9 => absurd (by decide) h9)
  refine lv_iconst (v := 0) hx hb dX12_where_17 (by decide) ?_
  refine W.widen (k := 0) (n := 0) (Nat.le_of_ble_eq_true rfl) (Nat.le_of_ble_eq_true rfl) ?_
  exact W.iret (v := 0) hx hb hr (fun t ht hW => ⟨⟨0, (), rfl, rfl, ⟨by rw [ht]; exact hP, va_K.moved hW.alike hK, hD⟩⟩, hS.F ht⟩) hS.2.2 dX12_where_18
set_option maxHeartbeats 4000000 in
set_option maxRecDepth 100000 in
theorem c_X12_source (l : Launch) (dC : Nat → ClassId) (dI : Nat → Nat → Nat) (sz : Nat) (m0 : Nat) (kd : Nat) (gw : Nat) (fa : Nat) (gM : Nat → Nat) (th : Int32) (a0 : Int32) : Met l yX12_source (Cond.code yX12_source cX12_source 2 (some .int) :: gU) ({ frames := 2, cells := 0, slots := 0, locals := 43 }) (gP dC dI sz [(m0, .inr (12, mM kd gw fa gM 0 0 0 0 0 0 0 0 th))] [] [.ref m0, .int a0]) (va_Qi (fun (r : Int32) (_ : Unit) => r = 0) (fun (_ : Unit) (t9 : State) => va_P (dC, dI) vwCl [(m0, .inr (12, mM kd gw fa gM 0 0 0 0 0 0 0 0 1))] t9.heap ∧ va_K (dC, dI) vwCl [] t9 ∧ va_D (va_A [(m0, .inr (12, mM kd gw fa gM 0 0 0 0 0 0 0 0 th))] sz) [(m0, .inr (12, mM kd gw fa gM 0 0 0 0 0 0 0 0 1))]) (va_A [(m0, .inr (12, mM kd gw fa gM 0 0 0 0 0 0 0 0 th))] sz)) 0 0 (va_A [(m0, .inr (12, mM kd gw fa gM 0 0 0 0 0 0 0 0 th))] sz) := by
  refine Met.ofW (cc := cX12_source) (maxL := 2) (ret := (some .int)) (by decide) rfl ?_
  intro p e s m args below meth c s₁ B hml hv
  obtain ⟨rfl, hsz, hP, hK, hD0, hE⟩ := hv
  have hx := B.exec
  have hb := B.bytes
  have hr := B.returns
  have hts0 := atoms_spec (ws := Cond.code yX12_source cX12_source 2 (some .int) :: gU) B.pre
  have hts : ∀ w ∈ gU, w.before _ s = true := fun w h => hts0 w (List.mem_cons_of_mem _ h)
  have hown : s.vm.findClass RX12 = some m.cls := findClass_of_methodNamed B.named
  have hlocks := B.notSynchronized
  subst hsz
  have hD := hD0.self (sz := s.heap.size)
  generalize hAe : va_A [(m0, .inr (12, mM kd gw fa gM 0 0 0 0 0 0 0 0 th))] s.heap.size = A at hD ⊢
  have hA : ∀ q : Nat, s.heap.size ≤ q → A q := fun q h => by rw [← hAe]; exact Or.inr h
  have hS : va_S A s.heap s.heap [] := va_S.rf
  have hP : va_P (dC, dI) vwCl [(m0, .inr (12, mM kd gw fa gM 0 0 0 0 0 0 0 0 th))] s.heap := hP
  have hl := lv_entry ([.ref m0, .int a0]) (n := 2) (Nat.le_of_ble_eq_true rfl)
  rw [lg_entry_eq]
  generalize (lg_sl ([.ref m0, .int a0]) ++ List.replicate (2 - (lg_sl ([.ref m0, .int a0])).length) Slot.unset).toArray = ls at hl ⊢
  have hl : lv_has ls 2 [(0, .ref m0), (1, .int a0)] := hl
  refine lv_aload_n hx hb dX12_source_0 rfl (lv_at hl 0 rfl) ?_
  refine lv_iload_n hx hb dX12_source_1 rfl (lv_at hl 1 rfl) ?_
  have hPc := hP.sub (ws' := [(m0, .inr (12, mM kd gw fa gM 0 0 0 0 0 0 0 0 th))]) [0] rfl
  have hDc := hD.sub (ws' := [(m0, .inr (12, mM kd gw fa gM 0 0 0 0 0 0 0 0 th))]) [0] (by decide) rfl
  have hKc := hK.sub (tys' := []) [] rfl
  have hFc := va_free (wc := [(m0, .inr (12, mM kd gw fa gM 0 0 0 0 0 0 0 0 th))]) hD hS hA [0] rfl
  refine va_calli (va_runV (As := [.int a0]) (rest := []) ⟨hx, hb, hml, hown, hts⟩ (c_X12_isPacket l dC dI s.heap.size m0 kd gw fa gM th a0) (cwV 1 hts (gV u_1635 u_1637 v_85 u_14 u_1638) rfl rfl rfl (by decide +kernel) ⟨Nat.le_of_ble_eq_true rfl, Nat.le_of_ble_eq_true rfl⟩) ⟨gP_blind, va_recv hKc hPc (ci := 12) (q0 := 0) rfl rfl, gP_call hPc hKc hDc hE⟩ rfl rfl hl.1 rfl (lv_room (Nat.le_of_ble_eq_true rfl)) dX12_source_2 ⟨(Nat.le_of_ble_eq_true rfl), (Nat.le_of_ble_eq_true rfl)⟩) hS (fun q _ h => hFc q h) hFc (fun r218 u9 t9 H217 locs ht hvm hw hB hz1 hk1 hS => ?_)
  obtain ⟨hP1, hK1, hD1⟩ := hB
  rw [ht] at hP1
  have hK1 := va_K.moved hvm.symm hK1
  obtain ⟨hP, hD⟩ := va_join (wr := []) (w1 := [(m0, .inr (12, mM kd gw fa gM 0 0 0 0 0 0 0 0 1))]) hP hD [0] [] rfl rfl (by decide) (by decide) hk1 hFc hP1 hD1
  have hK := (hK.sub (tys' := []) [] rfl).app hK1
  have hK : va_K (dC, dI) vwCl [] s := hK
  have hP : va_P (dC, dI) vwCl [(m0, .inr (12, mM kd gw fa gM 0 0 0 0 0 0 0 0 1))] H217 := hP
  have hD : va_D A [(m0, .inr (12, mM kd gw fa gM 0 0 0 0 0 0 0 0 1))] := hD
  subst hw
  refine lv_if_eq (tgt := 17) hx hb dX12_source_5 (by decide) (fun _ => ?_) (fun h9 => absurd (by decide) h9)
  refine lv_iconst (v := 0) hx hb dX12_source_17 (by decide) ?_
  refine W.widen (k := 0) (n := 0) (Nat.le_of_ble_eq_true rfl) (Nat.le_of_ble_eq_true rfl) ?_
  exact W.iret (v := 0) hx hb hr (fun t ht hW => ⟨⟨0, (), rfl, rfl, ⟨by rw [ht]; exact hP, va_K.moved hW.alike hK, hD⟩⟩, hS.F ht⟩) hS.2.2 dX12_source_18
set_option maxHeartbeats 4000000 in
set_option maxRecDepth 100000 in
theorem c_X12_noted (l : Launch) (dC : Nat → ClassId) (dI : Nat → Nat → Nat) (sz : Nat) (m0 : Nat) (kd : Nat) (gw : Nat) (fa : Nat) (gM : Nat → Nat) (th : Int32) (a0 : Int32) (a1 : Int32) : Met l yX12_noted (Cond.code yX12_noted cX12_noted 4 (some .int) :: gU) ({ frames := 2, cells := 0, slots := 0, locals := 43 }) (gP dC dI sz [(m0, .inr (12, mM kd gw fa gM 0 0 0 0 0 0 0 0 th))] [] [.ref m0, .int a0, .int a1]) (va_Qi (fun (r : Int32) (_ : Unit) => r = 0) (fun (_ : Unit) (t9 : State) => va_P (dC, dI) vwCl [(m0, .inr (12, mM kd gw fa gM 0 0 0 0 0 0 0 0 1))] t9.heap ∧ va_K (dC, dI) vwCl [] t9 ∧ va_D (va_A [(m0, .inr (12, mM kd gw fa gM 0 0 0 0 0 0 0 0 th))] sz) [(m0, .inr (12, mM kd gw fa gM 0 0 0 0 0 0 0 0 1))]) (va_A [(m0, .inr (12, mM kd gw fa gM 0 0 0 0 0 0 0 0 th))] sz)) 0 0 (va_A [(m0, .inr (12, mM kd gw fa gM 0 0 0 0 0 0 0 0 th))] sz) := by
  refine Met.ofW (cc := cX12_noted) (maxL := 4) (ret := (some .int)) (by decide) rfl ?_
  intro p e s m args below meth c s₁ B hml hv
  obtain ⟨rfl, hsz, hP, hK, hD0, hE⟩ := hv
  have hx := B.exec
  have hb := B.bytes
  have hr := B.returns
  have hts0 := atoms_spec (ws := Cond.code yX12_noted cX12_noted 4 (some .int) :: gU) B.pre
  have hts : ∀ w ∈ gU, w.before _ s = true := fun w h => hts0 w (List.mem_cons_of_mem _ h)
  have hown : s.vm.findClass RX12 = some m.cls := findClass_of_methodNamed B.named
  have hlocks := B.notSynchronized
  subst hsz
  have hD := hD0.self (sz := s.heap.size)
  generalize hAe : va_A [(m0, .inr (12, mM kd gw fa gM 0 0 0 0 0 0 0 0 th))] s.heap.size = A at hD ⊢
  have hA : ∀ q : Nat, s.heap.size ≤ q → A q := fun q h => by rw [← hAe]; exact Or.inr h
  have hS : va_S A s.heap s.heap [] := va_S.rf
  have hP : va_P (dC, dI) vwCl [(m0, .inr (12, mM kd gw fa gM 0 0 0 0 0 0 0 0 th))] s.heap := hP
  have hl := lv_entry ([.ref m0, .int a0, .int a1]) (n := 4) (Nat.le_of_ble_eq_true rfl)
  rw [lg_entry_eq]
  generalize (lg_sl ([.ref m0, .int a0, .int a1]) ++ List.replicate (4 - (lg_sl ([.ref m0, .int a0, .int a1])).length) Slot.unset).toArray = ls at hl ⊢
  have hl : lv_has ls 4 [(0, .ref m0), (1, .int a0), (2, .int a1)] := hl
  refine lv_aload_n hx hb dX12_noted_0 rfl (lv_at hl 0 rfl) ?_
  refine lv_iload_n hx hb dX12_noted_1 rfl (lv_at hl 1 rfl) ?_
  have hPc := hP.sub (ws' := [(m0, .inr (12, mM kd gw fa gM 0 0 0 0 0 0 0 0 th))]) [0] rfl
  have hDc := hD.sub (ws' := [(m0, .inr (12, mM kd gw fa gM 0 0 0 0 0 0 0 0 th))]) [0] (by decide) rfl
  have hKc := hK.sub (tys' := []) [] rfl
  have hFc := roF hS hA
  refine va_calli (va_runV (As := [.int a0]) (rest := []) ⟨hx, hb, hml, hown, hts⟩ (c_X12_isBox l dC dI s.heap.size m0 kd gw fa gM th a0) (cwV 1 hts (gV u_1415 u_1417 v_46 u_14 u_1418) rfl rfl rfl (by decide +kernel) ⟨Nat.le_of_ble_eq_true rfl, Nat.le_of_ble_eq_true rfl⟩) ⟨gP_blind, va_recv hKc hPc (ci := 12) (q0 := 0) rfl rfl, gP_call hPc hKc hDc hE⟩ rfl rfl hl.1 rfl (lv_room (Nat.le_of_ble_eq_true rfl)) dX12_noted_2 ⟨(Nat.le_of_ble_eq_true rfl), (Nat.le_of_ble_eq_true rfl)⟩) hS (fun q _ h => hFc q h) hFc (fun r220 u9 t9 H219 locs ht hvm hw hB hz1 hk1 hS => ?_)
  have hP := roP hP hk1
  subst hw
  refine lv_if_eq (tgt := 20) hx hb dX12_noted_5 (by decide) (fun _ => ?_) (fun h9 => absurd (by decide) h9)
  refine lv_iconst (v := 0) hx hb dX12_noted_20 (by decide) ?_
  refine lv_istore_n (lv' := [(3, .int 0), (0, .ref m0), (1, .int a0), (2, .int a1)]) hx hb dX12_noted_21 rfl hl (by decide) rfl (fun ls hl => ?_)
  refine lv_aload_n hx hb dX12_noted_22 rfl (lv_at hl 1 rfl) ?_
  refine lv_iload_n hx hb dX12_noted_23 rfl (lv_at hl 0 rfl) ?_
  refine lv_if_ne (tgt := 31) hx hb dX12_noted_24 (by decide) (fun h9 => absurd (by decide) h9) (fun _ => ?_)
  refine lv_iconst (v := 1) hx hb dX12_noted_27 (by decide) ?_
  refine lv_goto (tgt := 54) hx hb dX12_noted_28 (by decide) ?_
  have hPc := hP.sub (ws' := [(m0, .inr (12, mM kd gw fa gM 0 0 0 0 0 0 0 0 th))]) [0] rfl
  have hDc := hD.sub (ws' := [(m0, .inr (12, mM kd gw fa gM 0 0 0 0 0 0 0 0 th))]) [0] (by decide) rfl
  have hKc := hK.sub (tys' := []) [] rfl
  have hFc := va_free (wc := [(m0, .inr (12, mM kd gw fa gM 0 0 0 0 0 0 0 0 th))]) hD hS hA [0] rfl
  refine va_calli (va_runV (As := [.int 1]) (rest := []) ⟨hx, hb, hml, hown, hts⟩ (c_X12_can l dC dI H219.size m0 kd gw fa gM th 1) (cwV 1 hts (gV u_1403 u_1405 v_44 u_14 u_1406) rfl rfl rfl (by decide +kernel) ⟨Nat.le_of_ble_eq_true rfl, Nat.le_of_ble_eq_true rfl⟩) ⟨gP_blind, va_recv hKc hPc (ci := 12) (q0 := 0) rfl rfl, gP_call hPc hKc hDc hE⟩ rfl rfl hl.1 rfl (lv_room (Nat.le_of_ble_eq_true rfl)) dX12_noted_54 ⟨(Nat.le_of_ble_eq_true rfl), (Nat.le_of_ble_eq_true rfl)⟩) hS (fun q _ h => hFc q h) hFc (fun r222 u9 t9 H221 locs ht hvm hw hB hz1 hk1 hS => ?_)
  obtain ⟨hP1, hK1, hD1⟩ := hB
  rw [ht] at hP1
  have hK1 := va_K.moved hvm.symm hK1
  obtain ⟨hP, hD⟩ := va_join (wr := []) (w1 := [(m0, .inr (12, mM kd gw fa gM 0 0 0 0 0 0 0 0 1))]) hP hD [0] [] rfl rfl (by decide) (by decide) hk1 hFc hP1 hD1
  have hK := (hK.sub (tys' := []) [] rfl).app hK1
  have hK : va_K (dC, dI) vwCl [] s := hK
  have hP : va_P (dC, dI) vwCl [(m0, .inr (12, mM kd gw fa gM 0 0 0 0 0 0 0 0 1))] H221 := hP
  have hD : va_D A [(m0, .inr (12, mM kd gw fa gM 0 0 0 0 0 0 0 0 1))] := hD
  subst hw
  rw [show gCan 1 = 0 from by decide]
  refine lv_if_ne (tgt := 62) hx hb dX12_noted_57 (by decide) (fun h9 => absurd (by decide) h9) (fun _ => ?_)
  refine lv_iconst (v := 0) hx hb dX12_noted_60 (by decide) ?_
  refine W.widen (k := 0) (n := 0) (Nat.le_of_ble_eq_true rfl) (Nat.le_of_ble_eq_true rfl) ?_
  exact W.iret (v := 0) hx hb hr (fun t ht hW => ⟨⟨0, (), rfl, rfl, ⟨by rw [ht]; exact hP, va_K.moved hW.alike hK, hD⟩⟩, hS.F ht⟩) hS.2.2 dX12_noted_61
set_option maxHeartbeats 4000000 in
set_option maxRecDepth 100000 in
theorem c_X12_learnt (l : Launch) (dC : Nat → ClassId) (dI : Nat → Nat → Nat) (sz : Nat) (m0 : Nat) (kd : Nat) (gw : Nat) (fa : Nat) (gM : Nat → Nat) (th : Int32) (a0 : Int32) (a1 : Int32) (a2 : Int32) : Met l yX12_learnt (Cond.code yX12_learnt cX12_learnt 5 (some .int) :: gU) ({ frames := 2, cells := 0, slots := 0, locals := 43 }) (gP dC dI sz [(m0, .inr (12, mM kd gw fa gM 0 0 0 0 0 0 0 0 th))] [] [.ref m0, .int a0, .int a1, .int a2]) (va_Qi (fun (r : Int32) (_ : Unit) => r = 0) (fun (_ : Unit) (t9 : State) => va_P (dC, dI) vwCl [(m0, .inr (12, mM kd gw fa gM 0 0 0 0 0 0 0 0 1))] t9.heap ∧ va_K (dC, dI) vwCl [] t9 ∧ va_D (va_A [(m0, .inr (12, mM kd gw fa gM 0 0 0 0 0 0 0 0 th))] sz) [(m0, .inr (12, mM kd gw fa gM 0 0 0 0 0 0 0 0 1))]) (va_A [(m0, .inr (12, mM kd gw fa gM 0 0 0 0 0 0 0 0 th))] sz)) 0 0 (va_A [(m0, .inr (12, mM kd gw fa gM 0 0 0 0 0 0 0 0 th))] sz) := by
  refine Met.ofW (cc := cX12_learnt) (maxL := 5) (ret := (some .int)) (by decide) rfl ?_
  intro p e s m args below meth c s₁ B hml hv
  obtain ⟨rfl, hsz, hP, hK, hD0, hE⟩ := hv
  have hx := B.exec
  have hb := B.bytes
  have hr := B.returns
  have hts0 := atoms_spec (ws := Cond.code yX12_learnt cX12_learnt 5 (some .int) :: gU) B.pre
  have hts : ∀ w ∈ gU, w.before _ s = true := fun w h => hts0 w (List.mem_cons_of_mem _ h)
  have hown : s.vm.findClass RX12 = some m.cls := findClass_of_methodNamed B.named
  have hlocks := B.notSynchronized
  subst hsz
  have hD := hD0.self (sz := s.heap.size)
  generalize hAe : va_A [(m0, .inr (12, mM kd gw fa gM 0 0 0 0 0 0 0 0 th))] s.heap.size = A at hD ⊢
  have hA : ∀ q : Nat, s.heap.size ≤ q → A q := fun q h => by rw [← hAe]; exact Or.inr h
  have hS : va_S A s.heap s.heap [] := va_S.rf
  have hP : va_P (dC, dI) vwCl [(m0, .inr (12, mM kd gw fa gM 0 0 0 0 0 0 0 0 th))] s.heap := hP
  have hl := lv_entry ([.ref m0, .int a0, .int a1, .int a2]) (n := 5) (Nat.le_of_ble_eq_true rfl)
  rw [lg_entry_eq]
  generalize (lg_sl ([.ref m0, .int a0, .int a1, .int a2]) ++ List.replicate (5 - (lg_sl ([.ref m0, .int a0, .int a1, .int a2])).length) Slot.unset).toArray = ls at hl ⊢
  have hl : lv_has ls 5 [(0, .ref m0), (1, .int a0), (2, .int a1), (3, .int a2)] := hl
  refine lv_aload_n hx hb dX12_learnt_0 rfl (lv_at hl 0 rfl) ?_
  refine lv_aload_n hx hb dX12_learnt_1 rfl (lv_at hl 0 rfl) ?_
  refine lv_iload_n hx hb dX12_learnt_2 rfl (lv_at hl 1 rfl) ?_
  have hPc := hP.sub (ws' := [(m0, .inr (12, mM kd gw fa gM 0 0 0 0 0 0 0 0 th))]) [0] rfl
  have hDc := hD.sub (ws' := [(m0, .inr (12, mM kd gw fa gM 0 0 0 0 0 0 0 0 th))]) [0] (by decide) rfl
  have hKc := hK.sub (tys' := []) [] rfl
  have hFc := roF hS hA
  refine va_calli (va_runV (As := [.int a0]) (rest := [.ref m0]) ⟨hx, hb, hml, hown, hts⟩ (c_X12_isBox l dC dI s.heap.size m0 kd gw fa gM th a0) (cwV 1 hts (gV u_1415 u_1417 v_46 u_14 u_1418) rfl rfl rfl (by decide +kernel) ⟨Nat.le_of_ble_eq_true rfl, Nat.le_of_ble_eq_true rfl⟩) ⟨gP_blind, va_recv hKc hPc (ci := 12) (q0 := 0) rfl rfl, gP_call hPc hKc hDc hE⟩ rfl rfl hl.1 rfl (lv_room (Nat.le_of_ble_eq_true rfl)) dX12_learnt_3 ⟨(Nat.le_of_ble_eq_true rfl), (Nat.le_of_ble_eq_true rfl)⟩) hS (fun q _ h => hFc q h) hFc (fun r224 u9 t9 H223 locs ht hvm hw hB hz1 hk1 hS => ?_)
  have hP := roP hP hk1
  subst hw
  refine lv_if_ne (tgt := 13) hx hb dX12_learnt_6 (by decide) (fun h9 => absurd (by decide) h9) (fun _ => ?_)
  refine lv_iconst (v := 1) hx hb dX12_learnt_9 (by decide) ?_
  refine lv_goto (tgt := 44) hx hb dX12_learnt_10 (by decide) ?_
  have hPc := hP.sub (ws' := [(m0, .inr (12, mM kd gw fa gM 0 0 0 0 0 0 0 0 th))]) [0] rfl
  have hDc := hD.sub (ws' := [(m0, .inr (12, mM kd gw fa gM 0 0 0 0 0 0 0 0 th))]) [0] (by decide) rfl
  have hKc := hK.sub (tys' := []) [] rfl
  have hFc := va_free (wc := [(m0, .inr (12, mM kd gw fa gM 0 0 0 0 0 0 0 0 th))]) hD hS hA [0] rfl
  refine va_calli (va_runV (As := [.int 1]) (rest := []) ⟨hx, hb, hml, hown, hts⟩ (c_X12_can l dC dI H223.size m0 kd gw fa gM th 1) (cwV 1 hts (gV u_1403 u_1405 v_44 u_14 u_1406) rfl rfl rfl (by decide +kernel) ⟨Nat.le_of_ble_eq_true rfl, Nat.le_of_ble_eq_true rfl⟩) ⟨gP_blind, va_recv hKc hPc (ci := 12) (q0 := 0) rfl rfl, gP_call hPc hKc hDc hE⟩ rfl rfl hl.1 rfl (lv_room (Nat.le_of_ble_eq_true rfl)) dX12_learnt_44 ⟨(Nat.le_of_ble_eq_true rfl), (Nat.le_of_ble_eq_true rfl)⟩) hS (fun q _ h => hFc q h) hFc (fun r226 u9 t9 H225 locs ht hvm hw hB hz1 hk1 hS => ?_)
  obtain ⟨hP1, hK1, hD1⟩ := hB
  rw [ht] at hP1
  have hK1 := va_K.moved hvm.symm hK1
  obtain ⟨hP, hD⟩ := va_join (wr := []) (w1 := [(m0, .inr (12, mM kd gw fa gM 0 0 0 0 0 0 0 0 1))]) hP hD [0] [] rfl rfl (by decide) (by decide) hk1 hFc hP1 hD1
  have hK := (hK.sub (tys' := []) [] rfl).app hK1
  have hK : va_K (dC, dI) vwCl [] s := hK
  have hP : va_P (dC, dI) vwCl [(m0, .inr (12, mM kd gw fa gM 0 0 0 0 0 0 0 0 1))] H225 := hP
  have hD : va_D A [(m0, .inr (12, mM kd gw fa gM 0 0 0 0 0 0 0 0 1))] := hD
  subst hw
  rw [show gCan 1 = 0 from by decide]
  refine lv_if_ne (tgt := 52) hx hb dX12_learnt_47 (by decide) (fun h9 => absurd (by decide) h9) (fun _ => ?_)
  refine lv_iconst (v := 0) hx hb dX12_learnt_50 (by decide) ?_
  refine W.widen (k := 0) (n := 0) (Nat.le_of_ble_eq_true rfl) (Nat.le_of_ble_eq_true rfl) ?_
  exact W.iret (v := 0) hx hb hr (fun t ht hW => ⟨⟨0, (), rfl, rfl, ⟨by rw [ht]; exact hP, va_K.moved hW.alike hK, hD⟩⟩, hS.F ht⟩) hS.2.2 dX12_learnt_51
set_option maxHeartbeats 4000000 in
set_option maxRecDepth 100000 in
theorem c_X12_reach (l : Launch) (dC : Nat → ClassId) (dI : Nat → Nat → Nat) (sz : Nat) (m0 : Nat) (kd : Nat) (gw : Nat) (fa : Nat) (gM : Nat → Nat) (th : Int32) (a0 : Int32) (a1 : Int32) : Met l yX12_reach (Cond.code yX12_reach cX12_reach 3 (some .int) :: gU) ({ frames := 3, cells := 0, slots := 0, locals := 67 }) (gP dC dI sz [(m0, .inr (12, mM kd gw fa gM 0 0 0 0 0 0 0 0 th))] [] [.ref m0, .int a0, .int a1]) (va_Qi (fun (r : Int32) (_ : Unit) => r = 0) (fun (_ : Unit) (t9 : State) => va_P (dC, dI) vwCl [(m0, .inr (12, mM kd gw fa gM 0 0 0 0 0 0 0 0 1))] t9.heap ∧ va_K (dC, dI) vwCl [] t9 ∧ va_D (va_A [(m0, .inr (12, mM kd gw fa gM 0 0 0 0 0 0 0 0 th))] sz) [(m0, .inr (12, mM kd gw fa gM 0 0 0 0 0 0 0 0 1))]) (va_A [(m0, .inr (12, mM kd gw fa gM 0 0 0 0 0 0 0 0 th))] sz)) 0 0 (va_A [(m0, .inr (12, mM kd gw fa gM 0 0 0 0 0 0 0 0 th))] sz) := by
  refine Met.ofW (cc := cX12_reach) (maxL := 3) (ret := (some .int)) (by decide) rfl ?_
  intro p e s m args below meth c s₁ B hml hv
  obtain ⟨rfl, hsz, hP, hK, hD0, hE⟩ := hv
  have hx := B.exec
  have hb := B.bytes
  have hr := B.returns
  have hts0 := atoms_spec (ws := Cond.code yX12_reach cX12_reach 3 (some .int) :: gU) B.pre
  have hts : ∀ w ∈ gU, w.before _ s = true := fun w h => hts0 w (List.mem_cons_of_mem _ h)
  have hown : s.vm.findClass RX12 = some m.cls := findClass_of_methodNamed B.named
  have hlocks := B.notSynchronized
  subst hsz
  have hD := hD0.self (sz := s.heap.size)
  generalize hAe : va_A [(m0, .inr (12, mM kd gw fa gM 0 0 0 0 0 0 0 0 th))] s.heap.size = A at hD ⊢
  have hA : ∀ q : Nat, s.heap.size ≤ q → A q := fun q h => by rw [← hAe]; exact Or.inr h
  have hS : va_S A s.heap s.heap [] := va_S.rf
  have hP : va_P (dC, dI) vwCl [(m0, .inr (12, mM kd gw fa gM 0 0 0 0 0 0 0 0 th))] s.heap := hP
  have hl := lv_entry ([.ref m0, .int a0, .int a1]) (n := 3) (Nat.le_of_ble_eq_true rfl)
  rw [lg_entry_eq]
  generalize (lg_sl ([.ref m0, .int a0, .int a1]) ++ List.replicate (3 - (lg_sl ([.ref m0, .int a0, .int a1])).length) Slot.unset).toArray = ls at hl ⊢
  have hl : lv_has ls 3 [(0, .ref m0), (1, .int a0), (2, .int a1)] := hl
  refine lv_aload_n hx hb dX12_reach_0 rfl (lv_at hl 0 rfl) ?_
  refine lv_iload_n hx hb dX12_reach_1 rfl (lv_at hl 1 rfl) ?_
  refine lv_iload_n hx hb dX12_reach_2 rfl (lv_at hl 2 rfl) ?_
  have hPc := hP.sub (ws' := [(m0, .inr (12, mM kd gw fa gM 0 0 0 0 0 0 0 0 th))]) [0] rfl
  have hDc := hD.sub (ws' := [(m0, .inr (12, mM kd gw fa gM 0 0 0 0 0 0 0 0 th))]) [0] (by decide) rfl
  have hKc := hK.sub (tys' := []) [] rfl
  have hFc := va_free (wc := [(m0, .inr (12, mM kd gw fa gM 0 0 0 0 0 0 0 0 th))]) hD hS hA [0] rfl
  refine va_calli (va_runV (As := [.int a0, .int a1]) (rest := []) ⟨hx, hb, hml, hown, hts⟩ (c_X12_reaches l dC dI s.heap.size m0 kd gw fa gM th a0 a1) (cwV 2 hts (gV u_1663 u_1665 v_86 u_14 u_1666) rfl rfl rfl (by decide +kernel) ⟨Nat.le_of_ble_eq_true rfl, Nat.le_of_ble_eq_true rfl⟩) ⟨gP_blind, va_recv hKc hPc (ci := 12) (q0 := 0) rfl rfl, gP_call hPc hKc hDc hE⟩ rfl rfl hl.1 rfl (lv_room (Nat.le_of_ble_eq_true rfl)) dX12_reach_3 ⟨(Nat.le_of_ble_eq_true rfl), (Nat.le_of_ble_eq_true rfl)⟩) hS (fun q _ h => hFc q h) hFc (fun r228 u9 t9 H227 locs ht hvm hw hB hz1 hk1 hS => ?_)
  obtain ⟨hP1, hK1, hD1⟩ := hB
  rw [ht] at hP1
  have hK1 := va_K.moved hvm.symm hK1
  obtain ⟨hP, hD⟩ := va_join (wr := []) (w1 := [(m0, .inr (12, mM kd gw fa gM 0 0 0 0 0 0 0 0 1))]) hP hD [0] [] rfl rfl (by decide) (by decide) hk1 hFc hP1 hD1
  have hK := (hK.sub (tys' := []) [] rfl).app hK1
  have hK : va_K (dC, dI) vwCl [] s := hK
  have hP : va_P (dC, dI) vwCl [(m0, .inr (12, mM kd gw fa gM 0 0 0 0 0 0 0 0 1))] H227 := hP
  have hD : va_D A [(m0, .inr (12, mM kd gw fa gM 0 0 0 0 0 0 0 0 1))] := hD
  subst hw
  refine W.widen (k := 0) (n := 0) (Nat.le_of_ble_eq_true rfl) (Nat.le_of_ble_eq_true rfl) ?_
  exact W.iret (v := 0) hx hb hr (fun t ht hW => ⟨⟨0, (), rfl, rfl, ⟨by rw [ht]; exact hP, va_K.moved hW.alike hK, hD⟩⟩, hS.F ht⟩) hS.2.2 dX12_reach_6
set_option maxHeartbeats 4000000 in
set_option maxRecDepth 100000 in
theorem c_X12_reachAnew (l : Launch) (dC : Nat → ClassId) (dI : Nat → Nat → Nat) (sz : Nat) (m0 : Nat) (kd : Nat) (gw : Nat) (fa : Nat) (gM : Nat → Nat) (th : Int32) (a0 : Int32) (a1 : Int32) : Met l yX12_reachAnew (Cond.code yX12_reachAnew cX12_reachAnew 3 (some .int) :: gU) ({ frames := 3, cells := 0, slots := 0, locals := 67 }) (gP dC dI sz [(m0, .inr (12, mM kd gw fa gM 0 0 0 0 0 0 0 0 th))] [] [.ref m0, .int a0, .int a1]) (va_Qi (fun (r : Int32) (_ : Unit) => r = 0) (fun (_ : Unit) (t9 : State) => va_P (dC, dI) vwCl [(m0, .inr (12, mM kd gw fa gM 0 0 0 0 0 0 0 0 1))] t9.heap ∧ va_K (dC, dI) vwCl [] t9 ∧ va_D (va_A [(m0, .inr (12, mM kd gw fa gM 0 0 0 0 0 0 0 0 th))] sz) [(m0, .inr (12, mM kd gw fa gM 0 0 0 0 0 0 0 0 1))]) (va_A [(m0, .inr (12, mM kd gw fa gM 0 0 0 0 0 0 0 0 th))] sz)) 0 0 (va_A [(m0, .inr (12, mM kd gw fa gM 0 0 0 0 0 0 0 0 th))] sz) := by
  refine Met.ofW (cc := cX12_reachAnew) (maxL := 3) (ret := (some .int)) (by decide) rfl ?_
  intro p e s m args below meth c s₁ B hml hv
  obtain ⟨rfl, hsz, hP, hK, hD0, hE⟩ := hv
  have hx := B.exec
  have hb := B.bytes
  have hr := B.returns
  have hts0 := atoms_spec (ws := Cond.code yX12_reachAnew cX12_reachAnew 3 (some .int) :: gU) B.pre
  have hts : ∀ w ∈ gU, w.before _ s = true := fun w h => hts0 w (List.mem_cons_of_mem _ h)
  have hown : s.vm.findClass RX12 = some m.cls := findClass_of_methodNamed B.named
  have hlocks := B.notSynchronized
  subst hsz
  have hD := hD0.self (sz := s.heap.size)
  generalize hAe : va_A [(m0, .inr (12, mM kd gw fa gM 0 0 0 0 0 0 0 0 th))] s.heap.size = A at hD ⊢
  have hA : ∀ q : Nat, s.heap.size ≤ q → A q := fun q h => by rw [← hAe]; exact Or.inr h
  have hS : va_S A s.heap s.heap [] := va_S.rf
  have hP : va_P (dC, dI) vwCl [(m0, .inr (12, mM kd gw fa gM 0 0 0 0 0 0 0 0 th))] s.heap := hP
  have hl := lv_entry ([.ref m0, .int a0, .int a1]) (n := 3) (Nat.le_of_ble_eq_true rfl)
  rw [lg_entry_eq]
  generalize (lg_sl ([.ref m0, .int a0, .int a1]) ++ List.replicate (3 - (lg_sl ([.ref m0, .int a0, .int a1])).length) Slot.unset).toArray = ls at hl ⊢
  have hl : lv_has ls 3 [(0, .ref m0), (1, .int a0), (2, .int a1)] := hl
  refine lv_aload_n hx hb dX12_reachAnew_0 rfl (lv_at hl 0 rfl) ?_
  refine lv_iload_n hx hb dX12_reachAnew_1 rfl (lv_at hl 1 rfl) ?_
  refine lv_iload_n hx hb dX12_reachAnew_2 rfl (lv_at hl 2 rfl) ?_
  have hPc := hP.sub (ws' := [(m0, .inr (12, mM kd gw fa gM 0 0 0 0 0 0 0 0 th))]) [0] rfl
  have hDc := hD.sub (ws' := [(m0, .inr (12, mM kd gw fa gM 0 0 0 0 0 0 0 0 th))]) [0] (by decide) rfl
  have hKc := hK.sub (tys' := []) [] rfl
  have hFc := va_free (wc := [(m0, .inr (12, mM kd gw fa gM 0 0 0 0 0 0 0 0 th))]) hD hS hA [0] rfl
  refine va_calli (va_runV (As := [.int a0, .int a1]) (rest := []) ⟨hx, hb, hml, hown, hts⟩ (c_X12_reaches l dC dI s.heap.size m0 kd gw fa gM th a0 a1) (cwV 2 hts (gV u_1663 u_1665 v_86 u_14 u_1666) rfl rfl rfl (by decide +kernel) ⟨Nat.le_of_ble_eq_true rfl, Nat.le_of_ble_eq_true rfl⟩) ⟨gP_blind, va_recv hKc hPc (ci := 12) (q0 := 0) rfl rfl, gP_call hPc hKc hDc hE⟩ rfl rfl hl.1 rfl (lv_room (Nat.le_of_ble_eq_true rfl)) dX12_reachAnew_3 ⟨(Nat.le_of_ble_eq_true rfl), (Nat.le_of_ble_eq_true rfl)⟩) hS (fun q _ h => hFc q h) hFc (fun r230 u9 t9 H229 locs ht hvm hw hB hz1 hk1 hS => ?_)
  obtain ⟨hP1, hK1, hD1⟩ := hB
  rw [ht] at hP1
  have hK1 := va_K.moved hvm.symm hK1
  obtain ⟨hP, hD⟩ := va_join (wr := []) (w1 := [(m0, .inr (12, mM kd gw fa gM 0 0 0 0 0 0 0 0 1))]) hP hD [0] [] rfl rfl (by decide) (by decide) hk1 hFc hP1 hD1
  have hK := (hK.sub (tys' := []) [] rfl).app hK1
  have hK : va_K (dC, dI) vwCl [] s := hK
  have hP : va_P (dC, dI) vwCl [(m0, .inr (12, mM kd gw fa gM 0 0 0 0 0 0 0 0 1))] H229 := hP
  have hD : va_D A [(m0, .inr (12, mM kd gw fa gM 0 0 0 0 0 0 0 0 1))] := hD
  subst hw
  refine W.widen (k := 0) (n := 0) (Nat.le_of_ble_eq_true rfl) (Nat.le_of_ble_eq_true rfl) ?_
  exact W.iret (v := 0) hx hb hr (fun t ht hW => ⟨⟨0, (), rfl, rfl, ⟨by rw [ht]; exact hP, va_K.moved hW.alike hK, hD⟩⟩, hS.F ht⟩) hS.2.2 dX12_reachAnew_6
set_option maxHeartbeats 4000000 in
set_option maxRecDepth 100000 in
theorem c_X12_proved (l : Launch) (dC : Nat → ClassId) (dI : Nat → Nat → Nat) (sz : Nat) (m0 : Nat) (kd : Nat) (gw : Nat) (fa : Nat) (gM : Nat → Nat) (th : Int32) (a0 : Int32) (a1 : Int32) (a2 : Int32) : Met l yX12_proved (Cond.code yX12_proved cX12_proved 4 (some .int) :: gU) ({ frames := 3, cells := 0, slots := 0, locals := 66 }) (gP dC dI sz [(m0, .inr (12, mM kd gw fa gM 0 0 0 0 0 0 0 0 th))] [] [.ref m0, .int a0, .int a1, .int a2]) (va_Qi (fun (r : Int32) (_ : Unit) => r = 0) (fun (_ : Unit) (t9 : State) => va_P (dC, dI) vwCl [(m0, .inr (12, mM kd gw fa gM 0 0 0 0 0 0 0 0 1))] t9.heap ∧ va_K (dC, dI) vwCl [] t9 ∧ va_D (va_A [(m0, .inr (12, mM kd gw fa gM 0 0 0 0 0 0 0 0 th))] sz) [(m0, .inr (12, mM kd gw fa gM 0 0 0 0 0 0 0 0 1))]) (va_A [(m0, .inr (12, mM kd gw fa gM 0 0 0 0 0 0 0 0 th))] sz)) 0 0 (va_A [(m0, .inr (12, mM kd gw fa gM 0 0 0 0 0 0 0 0 th))] sz) := by
  refine Met.ofW (cc := cX12_proved) (maxL := 4) (ret := (some .int)) (by decide) rfl ?_
  intro p e s m args below meth c s₁ B hml hv
  obtain ⟨rfl, hsz, hP, hK, hD0, hE⟩ := hv
  have hx := B.exec
  have hb := B.bytes
  have hr := B.returns
  have hts0 := atoms_spec (ws := Cond.code yX12_proved cX12_proved 4 (some .int) :: gU) B.pre
  have hts : ∀ w ∈ gU, w.before _ s = true := fun w h => hts0 w (List.mem_cons_of_mem _ h)
  have hown : s.vm.findClass RX12 = some m.cls := findClass_of_methodNamed B.named
  have hlocks := B.notSynchronized
  subst hsz
  have hD := hD0.self (sz := s.heap.size)
  generalize hAe : va_A [(m0, .inr (12, mM kd gw fa gM 0 0 0 0 0 0 0 0 th))] s.heap.size = A at hD ⊢
  have hA : ∀ q : Nat, s.heap.size ≤ q → A q := fun q h => by rw [← hAe]; exact Or.inr h
  have hS : va_S A s.heap s.heap [] := va_S.rf
  have hP : va_P (dC, dI) vwCl [(m0, .inr (12, mM kd gw fa gM 0 0 0 0 0 0 0 0 th))] s.heap := hP
  have hl := lv_entry ([.ref m0, .int a0, .int a1, .int a2]) (n := 4) (Nat.le_of_ble_eq_true rfl)
  rw [lg_entry_eq]
  generalize (lg_sl ([.ref m0, .int a0, .int a1, .int a2]) ++ List.replicate (4 - (lg_sl ([.ref m0, .int a0, .int a1, .int a2])).length) Slot.unset).toArray = ls at hl ⊢
  have hl : lv_has ls 4 [(0, .ref m0), (1, .int a0), (2, .int a1), (3, .int a2)] := hl
  refine lv_aload_n hx hb dX12_proved_0 rfl (lv_at hl 0 rfl) ?_
  refine lv_iload_n hx hb dX12_proved_1 rfl (lv_at hl 1 rfl) ?_
  refine lv_iload_n hx hb dX12_proved_2 rfl (lv_at hl 2 rfl) ?_
  refine lv_iload_n hx hb dX12_proved_3 rfl (lv_at hl 3 rfl) ?_
  have hPc := hP.sub (ws' := [(m0, .inr (12, mM kd gw fa gM 0 0 0 0 0 0 0 0 th))]) [0] rfl
  have hDc := hD.sub (ws' := [(m0, .inr (12, mM kd gw fa gM 0 0 0 0 0 0 0 0 th))]) [0] (by decide) rfl
  have hKc := hK.sub (tys' := []) [] rfl
  have hFc := va_free (wc := [(m0, .inr (12, mM kd gw fa gM 0 0 0 0 0 0 0 0 th))]) hD hS hA [0] rfl
  refine va_calli (va_runV (As := [.int a0, .int a1, .int a2]) (rest := []) ⟨hx, hb, hml, hown, hts⟩ (c_X12_isSent l dC dI s.heap.size m0 kd gw fa gM th a0 a1 a2) (cwV 3 hts (gV u_1518 u_1520 v_60 u_14 u_1521) rfl rfl rfl (by decide +kernel) ⟨Nat.le_of_ble_eq_true rfl, Nat.le_of_ble_eq_true rfl⟩) ⟨gP_blind, va_recv hKc hPc (ci := 12) (q0 := 0) rfl rfl, gP_call hPc hKc hDc hE⟩ rfl rfl hl.1 rfl (lv_room (Nat.le_of_ble_eq_true rfl)) dX12_proved_4 ⟨(Nat.le_of_ble_eq_true rfl), (Nat.le_of_ble_eq_true rfl)⟩) hS (fun q _ h => hFc q h) hFc (fun r232 u9 t9 H231 locs ht hvm hw hB hz1 hk1 hS => ?_)
  obtain ⟨hP1, hK1, hD1⟩ := hB
  rw [ht] at hP1
  have hK1 := va_K.moved hvm.symm hK1
  obtain ⟨hP, hD⟩ := va_join (wr := []) (w1 := [(m0, .inr (12, mM kd gw fa gM 0 0 0 0 0 0 0 0 1))]) hP hD [0] [] rfl rfl (by decide) (by decide) hk1 hFc hP1 hD1
  have hK := (hK.sub (tys' := []) [] rfl).app hK1
  have hK : va_K (dC, dI) vwCl [] s := hK
  have hP : va_P (dC, dI) vwCl [(m0, .inr (12, mM kd gw fa gM 0 0 0 0 0 0 0 0 1))] H231 := hP
  have hD : va_D A [(m0, .inr (12, mM kd gw fa gM 0 0 0 0 0 0 0 0 1))] := hD
  subst hw
  refine lv_if_ne (tgt := 12) hx hb dX12_proved_7 (by decide) (fun h9 => absurd (by decide) h9) (fun _ => ?_)
  refine lv_iconst (v := 0) hx hb dX12_proved_10 (by decide) ?_
  refine W.widen (k := 0) (n := 0) (Nat.le_of_ble_eq_true rfl) (Nat.le_of_ble_eq_true rfl) ?_
  exact W.iret (v := 0) hx hb hr (fun t ht hW => ⟨⟨0, (), rfl, rfl, ⟨by rw [ht]; exact hP, va_K.moved hW.alike hK, hD⟩⟩, hS.F ht⟩) hS.2.2 dX12_proved_11
set_option maxHeartbeats 4000000 in
set_option maxRecDepth 100000 in
theorem c_X12_way (l : Launch) (dC : Nat → ClassId) (dI : Nat → Nat → Nat) (sz : Nat) (m0 : Nat) (kd : Nat) (gw : Nat) (fa : Nat) (gM : Nat → Nat) (th : Int32) (a0 : Int32) (a1 : Int32) (a2 : Int32) (a3 : Int32) : Met l yX12_way (Cond.code yX12_way cX12_way 7 (some .int) :: gU) ({ frames := 2, cells := 0, slots := 0, locals := 43 }) (gP dC dI sz [(m0, .inr (12, mM kd gw fa gM 0 0 0 0 0 0 0 0 th))] [] [.ref m0, .int a0, .int a1, .int a2, .int a3]) (va_Qi (fun (r : Int32) (_ : Unit) => r = 0) (fun (_ : Unit) (t9 : State) => va_P (dC, dI) vwCl [(m0, .inr (12, mM kd gw fa gM 0 0 0 0 0 0 0 0 1))] t9.heap ∧ va_K (dC, dI) vwCl [] t9 ∧ va_D (va_A [(m0, .inr (12, mM kd gw fa gM 0 0 0 0 0 0 0 0 th))] sz) [(m0, .inr (12, mM kd gw fa gM 0 0 0 0 0 0 0 0 1))]) (va_A [(m0, .inr (12, mM kd gw fa gM 0 0 0 0 0 0 0 0 th))] sz)) 0 0 (va_A [(m0, .inr (12, mM kd gw fa gM 0 0 0 0 0 0 0 0 th))] sz) := by
  refine Met.ofW (cc := cX12_way) (maxL := 7) (ret := (some .int)) (by decide) rfl ?_
  intro p e s m args below meth c s₁ B hml hv
  obtain ⟨rfl, hsz, hP, hK, hD0, hE⟩ := hv
  have hx := B.exec
  have hb := B.bytes
  have hr := B.returns
  have hts0 := atoms_spec (ws := Cond.code yX12_way cX12_way 7 (some .int) :: gU) B.pre
  have hts : ∀ w ∈ gU, w.before _ s = true := fun w h => hts0 w (List.mem_cons_of_mem _ h)
  have hown : s.vm.findClass RX12 = some m.cls := findClass_of_methodNamed B.named
  have hlocks := B.notSynchronized
  subst hsz
  have hD := hD0.self (sz := s.heap.size)
  generalize hAe : va_A [(m0, .inr (12, mM kd gw fa gM 0 0 0 0 0 0 0 0 th))] s.heap.size = A at hD ⊢
  have hA : ∀ q : Nat, s.heap.size ≤ q → A q := fun q h => by rw [← hAe]; exact Or.inr h
  have hS : va_S A s.heap s.heap [] := va_S.rf
  have hP : va_P (dC, dI) vwCl [(m0, .inr (12, mM kd gw fa gM 0 0 0 0 0 0 0 0 th))] s.heap := hP
  have hl := lv_entry ([.ref m0, .int a0, .int a1, .int a2, .int a3]) (n := 7) (Nat.le_of_ble_eq_true rfl)
  rw [lg_entry_eq]
  generalize (lg_sl ([.ref m0, .int a0, .int a1, .int a2, .int a3]) ++ List.replicate (7 - (lg_sl ([.ref m0, .int a0, .int a1, .int a2, .int a3])).length) Slot.unset).toArray = ls at hl ⊢
  have hl : lv_has ls 7 [(0, .ref m0), (1, .int a0), (2, .int a1), (3, .int a2), (4, .int a3)] := hl
  refine lv_aload_n hx hb dX12_way_0 rfl (lv_at hl 0 rfl) ?_
  refine lv_iload_n hx hb dX12_way_1 rfl (lv_at hl 1 rfl) ?_
  have hPc := hP.sub (ws' := [(m0, .inr (12, mM kd gw fa gM 0 0 0 0 0 0 0 0 th))]) [0] rfl
  have hDc := hD.sub (ws' := [(m0, .inr (12, mM kd gw fa gM 0 0 0 0 0 0 0 0 th))]) [0] (by decide) rfl
  have hKc := hK.sub (tys' := []) [] rfl
  have hFc := roF hS hA
  refine va_calli (va_runV (As := [.int a0]) (rest := []) ⟨hx, hb, hml, hown, hts⟩ (c_X12_isBox l dC dI s.heap.size m0 kd gw fa gM th a0) (cwV 1 hts (gV u_1415 u_1417 v_46 u_14 u_1418) rfl rfl rfl (by decide +kernel) ⟨Nat.le_of_ble_eq_true rfl, Nat.le_of_ble_eq_true rfl⟩) ⟨gP_blind, va_recv hKc hPc (ci := 12) (q0 := 0) rfl rfl, gP_call hPc hKc hDc hE⟩ rfl rfl hl.1 rfl (lv_room (Nat.le_of_ble_eq_true rfl)) dX12_way_2 ⟨(Nat.le_of_ble_eq_true rfl), (Nat.le_of_ble_eq_true rfl)⟩) hS (fun q _ h => hFc q h) hFc (fun r234 u9 t9 H233 locs ht hvm hw hB hz1 hk1 hS => ?_)
  have hP := roP hP hk1
  subst hw
  refine lv_if_eq (tgt := 17) hx hb dX12_way_5 (by decide) (fun _ => ?_) (fun h9 => absurd (by decide) h9)
  refine lv_iconst (v := 0) hx hb dX12_way_17 (by decide) ?_
  refine lv_istore (lv' := [(5, .int 0), (0, .ref m0), (1, .int a0), (2, .int a1), (3, .int a2), (4, .int a3)]) hx hb dX12_way_18 hl (by decide) rfl (fun ls hl => ?_)
  refine lv_aload_n hx hb dX12_way_20 rfl (lv_at hl 1 rfl) ?_
  refine lv_iload hx hb dX12_way_21 (lv_at hl 0 rfl) ?_
  refine lv_if_eq (tgt := 30) hx hb dX12_way_23 (by decide) (fun _ => ?_) (fun h9 => absurd (by decide) h9)
  refine lv_iconst (v := 1) hx hb dX12_way_30 (by decide) ?_
  have hPc := hP.sub (ws' := [(m0, .inr (12, mM kd gw fa gM 0 0 0 0 0 0 0 0 th))]) [0] rfl
  have hDc := hD.sub (ws' := [(m0, .inr (12, mM kd gw fa gM 0 0 0 0 0 0 0 0 th))]) [0] (by decide) rfl
  have hKc := hK.sub (tys' := []) [] rfl
  have hFc := va_free (wc := [(m0, .inr (12, mM kd gw fa gM 0 0 0 0 0 0 0 0 th))]) hD hS hA [0] rfl
  refine va_calli (va_runV (As := [.int 1]) (rest := []) ⟨hx, hb, hml, hown, hts⟩ (c_X12_can l dC dI H233.size m0 kd gw fa gM th 1) (cwV 1 hts (gV u_1403 u_1405 v_44 u_14 u_1406) rfl rfl rfl (by decide +kernel) ⟨Nat.le_of_ble_eq_true rfl, Nat.le_of_ble_eq_true rfl⟩) ⟨gP_blind, va_recv hKc hPc (ci := 12) (q0 := 0) rfl rfl, gP_call hPc hKc hDc hE⟩ rfl rfl hl.1 rfl (lv_room (Nat.le_of_ble_eq_true rfl)) dX12_way_31 ⟨(Nat.le_of_ble_eq_true rfl), (Nat.le_of_ble_eq_true rfl)⟩) hS (fun q _ h => hFc q h) hFc (fun r236 u9 t9 H235 locs ht hvm hw hB hz1 hk1 hS => ?_)
  obtain ⟨hP1, hK1, hD1⟩ := hB
  rw [ht] at hP1
  have hK1 := va_K.moved hvm.symm hK1
  obtain ⟨hP, hD⟩ := va_join (wr := []) (w1 := [(m0, .inr (12, mM kd gw fa gM 0 0 0 0 0 0 0 0 1))]) hP hD [0] [] rfl rfl (by decide) (by decide) hk1 hFc hP1 hD1
  have hK := (hK.sub (tys' := []) [] rfl).app hK1
  have hK : va_K (dC, dI) vwCl [] s := hK
  have hP : va_P (dC, dI) vwCl [(m0, .inr (12, mM kd gw fa gM 0 0 0 0 0 0 0 0 1))] H235 := hP
  have hD : va_D A [(m0, .inr (12, mM kd gw fa gM 0 0 0 0 0 0 0 0 1))] := hD
  subst hw
  rw [show gCan 1 = 0 from by decide]
  refine lv_if_eq (tgt := 47) hx hb dX12_way_34 (by decide) (fun _ => ?_) (fun h9 => absurd (by decide) h9)
  refine lv_iconst (v := 0) hx hb dX12_way_47 (by decide) ?_
  refine W.widen (k := 0) (n := 0) (Nat.le_of_ble_eq_true rfl) (Nat.le_of_ble_eq_true rfl) ?_
  exact W.iret (v := 0) hx hb hr (fun t ht hW => ⟨⟨0, (), rfl, rfl, ⟨by rw [ht]; exact hP, va_K.moved hW.alike hK, hD⟩⟩, hS.F ht⟩) hS.2.2 dX12_way_48
set_option maxHeartbeats 4000000 in
set_option maxRecDepth 100000 in
theorem c_X12_thrown (l : Launch) (dC : Nat → ClassId) (dI : Nat → Nat → Nat) (sz : Nat) (m0 : Nat) (kd : Nat) (gw : Nat) (fa : Nat) (gM : Nat → Nat) (th : Int32) : Met l yX12_thrown (Cond.code yX12_thrown cX12_thrown 1 (some .int) :: gU) ({ frames := 0, cells := 0, slots := 0, locals := 0 }) (gP dC dI sz [(m0, .inr (12, mM kd gw fa gM 0 0 0 0 0 0 0 0 th))] [] [.ref m0]) (va_Qi (fun (r : Int32) (_ : Unit) => r = th) (fun _ _ => True) (va_A [] sz)) 0 0 (va_A [] sz) := by
  refine Met.ofW (cc := cX12_thrown) (maxL := 1) (ret := (some .int)) (by decide) rfl ?_
  intro p e s m args below meth c s₁ B hml hv
  obtain ⟨rfl, hsz, hP, hK, hD0, hE⟩ := hv
  have hx := B.exec
  have hb := B.bytes
  have hr := B.returns
  have hts0 := atoms_spec (ws := Cond.code yX12_thrown cX12_thrown 1 (some .int) :: gU) B.pre
  have hts : ∀ w ∈ gU, w.before _ s = true := fun w h => hts0 w (List.mem_cons_of_mem _ h)
  have hown : s.vm.findClass RX12 = some m.cls := findClass_of_methodNamed B.named
  have hlocks := B.notSynchronized
  subst hsz
  have hD := hD0
  generalize hAe : va_A [] s.heap.size = A at ⊢
  have hA : ∀ q : Nat, s.heap.size ≤ q → A q := fun q h => by rw [← hAe]; exact Or.inr h
  have hS : va_S A s.heap s.heap [] := va_S.rf
  have hP : va_P (dC, dI) vwCl [(m0, .inr (12, mM kd gw fa gM 0 0 0 0 0 0 0 0 th))] s.heap := hP
  have hl := lv_entry ([.ref m0]) (n := 1) (Nat.le_of_ble_eq_true rfl)
  rw [lg_entry_eq]
  generalize (lg_sl ([.ref m0]) ++ List.replicate (1 - (lg_sl ([.ref m0])).length) Slot.unset).toArray = ls at hl ⊢
  have hl : lv_has ls 1 [(0, .ref m0)] := hl
  refine lv_aload_n hx hb dX12_thrown_0 rfl (lv_at hl 0 rfl) ?_
  refine va_get (D := (dC, dI)) (ci := 12) (v := .int th) (C := RX12) (T := TX12) (N := 47) hx hb hts gX12 hown hK hP 0 rfl rfl 46 (by decide) (hts _ u_1296) (fun _ h9 => h9) rfl dX12_thrown_1 ?_
  refine W.widen (k := 0) (n := 0) (Nat.le_of_ble_eq_true rfl) (Nat.le_of_ble_eq_true rfl) ?_
  exact W.iret (v := th) hx hb hr (fun t ht hW => ⟨⟨th, (), rfl, rfl, trivial⟩, hS.F ht⟩) hS.2.2 dX12_thrown_4
set_option maxHeartbeats 4000000 in
set_option maxRecDepth 100000 in
theorem c_X12_frames (l : Launch) (dC : Nat → ClassId) (dI : Nat → Nat → Nat) (sz : Nat) (m0 : Nat) (kd : Nat) (gw : Nat) (fa : Nat) (gM : Nat → Nat) (th : Int32) : Met l yX12_frames (Cond.code yX12_frames cX12_frames 1 (some .int) :: gU) ({ frames := 0, cells := 0, slots := 0, locals := 0 }) (gP dC dI sz [(m0, .inr (12, mM kd gw fa gM 0 0 0 0 0 0 0 0 th))] [] [.ref m0]) (va_Qi (fun (r : Int32) (_ : Unit) => r = 0) (fun (_ : Unit) (t9 : State) => va_P (dC, dI) vwCl [(m0, .inr (12, mM kd gw fa gM 0 0 0 0 0 0 0 0 0))] t9.heap ∧ va_K (dC, dI) vwCl [] t9 ∧ va_D (va_A [(m0, .inr (12, mM kd gw fa gM 0 0 0 0 0 0 0 0 th))] sz) [(m0, .inr (12, mM kd gw fa gM 0 0 0 0 0 0 0 0 0))]) (va_A [(m0, .inr (12, mM kd gw fa gM 0 0 0 0 0 0 0 0 th))] sz)) 0 0 (va_A [(m0, .inr (12, mM kd gw fa gM 0 0 0 0 0 0 0 0 th))] sz) := by
  refine Met.ofW (cc := cX12_frames) (maxL := 1) (ret := (some .int)) (by decide) rfl ?_
  intro p e s m args below meth c s₁ B hml hv
  obtain ⟨rfl, hsz, hP, hK, hD0, hE⟩ := hv
  have hx := B.exec
  have hb := B.bytes
  have hr := B.returns
  have hts0 := atoms_spec (ws := Cond.code yX12_frames cX12_frames 1 (some .int) :: gU) B.pre
  have hts : ∀ w ∈ gU, w.before _ s = true := fun w h => hts0 w (List.mem_cons_of_mem _ h)
  have hown : s.vm.findClass RX12 = some m.cls := findClass_of_methodNamed B.named
  have hlocks := B.notSynchronized
  subst hsz
  have hD := hD0.self (sz := s.heap.size)
  generalize hAe : va_A [(m0, .inr (12, mM kd gw fa gM 0 0 0 0 0 0 0 0 th))] s.heap.size = A at hD ⊢
  have hA : ∀ q : Nat, s.heap.size ≤ q → A q := fun q h => by rw [← hAe]; exact Or.inr h
  have hS : va_S A s.heap s.heap [] := va_S.rf
  have hP : va_P (dC, dI) vwCl [(m0, .inr (12, mM kd gw fa gM 0 0 0 0 0 0 0 0 th))] s.heap := hP
  have hl := lv_entry ([.ref m0]) (n := 1) (Nat.le_of_ble_eq_true rfl)
  rw [lg_entry_eq]
  generalize (lg_sl ([.ref m0]) ++ List.replicate (1 - (lg_sl ([.ref m0])).length) Slot.unset).toArray = ls at hl ⊢
  have hl : lv_has ls 1 [(0, .ref m0)] := hl
  refine lv_aload_n hx hb dX12_frames_0 rfl (lv_at hl 0 rfl) ?_
  refine lv_iconst (v := 0) hx hb dX12_frames_1 (by decide) ?_
  refine va_put (D := (dC, dI)) (ci := 12) (v := .int 0) (ty := .int) (C := RX12) (T := TX12) (N := 47) hx hb hts gX12 tyX12 tyX12_ok nmX12 hown hK hP hD hS 0 rfl rfl 46 (by decide) (hts _ u_1296) (fun _ h9 => h9) rfl (by decide +kernel) rfl rfl (Nat.le_of_ble_eq_true rfl) dX12_frames_2 (fun H237 locs hP hD hS => ?_)
  have hP : va_P (dC, dI) vwCl [(m0, .inr (12, mM kd gw fa gM 0 0 0 0 0 0 0 0 0))] H237 := hP
  have hD : va_D A [(m0, .inr (12, mM kd gw fa gM 0 0 0 0 0 0 0 0 0))] := hD
  refine lv_aload_n hx hb dX12_frames_5 rfl (lv_at hl 0 rfl) ?_
  refine va_get (D := (dC, dI)) (ci := 12) (v := .int 0) (C := RX12) (T := TX12) (N := 47) hx hb hts gX12 hown hK hP 0 rfl rfl 34 (by decide) (hts _ u_1284) (fun _ h9 => h9) rfl dX12_frames_6 ?_
  refine W.widen (k := 0) (n := 0) (Nat.le_of_ble_eq_true rfl) (Nat.le_of_ble_eq_true rfl) ?_
  exact W.iret (v := 0) hx hb hr (fun t ht hW => ⟨⟨0, (), rfl, rfl, ⟨by rw [ht]; exact hP, va_K.moved hW.alike hK, hD⟩⟩, hS.F ht⟩) hS.2.2 dX12_frames_9
end
