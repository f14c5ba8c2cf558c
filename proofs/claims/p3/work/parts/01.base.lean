-- ===== PART A: goes FIRST, ahead of the names: the tables' words, and 'selects' of the private methods out of them =====
/-- a private method of a class that the tables say can be made, by its rows of tables_1 -/
def lw_okq (q : MethodName × Nat) : Prop := (q.1.cls ≠ "java/lang/invoke/MethodHandle" ∧ q.1.cls ≠ "java/lang/invoke/VarHandle") ∧ Cond.instantiable q.1.cls q.2 ∈ tables_1 ∧ Cond.privateMethod q.1 ∈ tables_1 ∧ Cond.instanceMethod q.1 ∈ tables_1
theorem lw_p0 : lw_okq (⟨"java/lang/Throwable", "fillInStackTrace", "(I)Ljava/lang/Throwable;"⟩, 6) := ⟨⟨by decide +kernel, by decide +kernel⟩, List.mem_of_getElem? (i := 431) (by decide +kernel), List.mem_of_getElem? (i := 429) (by decide +kernel), List.mem_of_getElem? (i := 430) (by decide +kernel)⟩
theorem lw_p1 : lw_okq (⟨"DoorServer", "requireRoom", "(I)V"⟩, 2) := ⟨⟨by decide +kernel, by decide +kernel⟩, List.mem_of_getElem? (i := 23) (by decide +kernel), List.mem_of_getElem? (i := 501) (by decide +kernel), List.mem_of_getElem? (i := 502) (by decide +kernel)⟩
theorem lw_p2 : lw_okq (⟨"DoorServer", "closedDraft", "()I"⟩, 2) := ⟨⟨by decide +kernel, by decide +kernel⟩, List.mem_of_getElem? (i := 23) (by decide +kernel), List.mem_of_getElem? (i := 525) (by decide +kernel), List.mem_of_getElem? (i := 526) (by decide +kernel)⟩
theorem lw_p3 : lw_okq (⟨"DoorServer$Digests", "digestText", "()[I"⟩, 7) := ⟨⟨by decide +kernel, by decide +kernel⟩, List.mem_of_getElem? (i := 105) (by decide +kernel), List.mem_of_getElem? (i := 584) (by decide +kernel), List.mem_of_getElem? (i := 585) (by decide +kernel)⟩
theorem lw_p4 : lw_okq (⟨"DoorServer$Digests", "mixBlock", "(I)V"⟩, 7) := ⟨⟨by decide +kernel, by decide +kernel⟩, List.mem_of_getElem? (i := 105) (by decide +kernel), List.mem_of_getElem? (i := 598) (by decide +kernel), List.mem_of_getElem? (i := 599) (by decide +kernel)⟩
theorem lw_p5 : lw_okq (⟨"DoorServer", "firstProof", "()I"⟩, 2) := ⟨⟨by decide +kernel, by decide +kernel⟩, List.mem_of_getElem? (i := 23) (by decide +kernel), List.mem_of_getElem? (i := 645) (by decide +kernel), List.mem_of_getElem? (i := 646) (by decide +kernel)⟩
theorem lw_p6 : lw_okq (⟨"DoorServer$Digests", "startWithKey", "(LDoorServer$Bytes;I)V"⟩, 7) := ⟨⟨by decide +kernel, by decide +kernel⟩, List.mem_of_getElem? (i := 105) (by decide +kernel), List.mem_of_getElem? (i := 653) (by decide +kernel), List.mem_of_getElem? (i := 654) (by decide +kernel)⟩
theorem lw_p7 : lw_okq (⟨"DoorServer$Digests", "appendBlanked", "(LDoorServer$Bytes;I)V"⟩, 7) := ⟨⟨by decide +kernel, by decide +kernel⟩, List.mem_of_getElem? (i := 105) (by decide +kernel), List.mem_of_getElem? (i := 657) (by decide +kernel), List.mem_of_getElem? (i := 658) (by decide +kernel)⟩
theorem lw_p8 : lw_okq (⟨"DoorServer$Request", "takes", "(III)Z"⟩, 2) := ⟨⟨by decide +kernel, by decide +kernel⟩, List.mem_of_getElem? (i := 304) (by decide +kernel), List.mem_of_getElem? (i := 702) (by decide +kernel), List.mem_of_getElem? (i := 703) (by decide +kernel)⟩
theorem lw_p9 : lw_okq (⟨"DoorServer$Server", "isProved", "(I)Z"⟩, 12) := ⟨⟨by decide +kernel, by decide +kernel⟩, List.mem_of_getElem? (i := 97) (by decide +kernel), List.mem_of_getElem? (i := 716) (by decide +kernel), List.mem_of_getElem? (i := 717) (by decide +kernel)⟩
theorem lw_p10 : lw_okq (⟨"DoorServer$Server", "isSealed", "(I)Z"⟩, 12) := ⟨⟨by decide +kernel, by decide +kernel⟩, List.mem_of_getElem? (i := 97) (by decide +kernel), List.mem_of_getElem? (i := 732) (by decide +kernel), List.mem_of_getElem? (i := 733) (by decide +kernel)⟩
theorem lw_p11 : lw_okq (⟨"DoorServer$Server", "answersAlike", "(I)Z"⟩, 12) := ⟨⟨by decide +kernel, by decide +kernel⟩, List.mem_of_getElem? (i := 97) (by decide +kernel), List.mem_of_getElem? (i := 737) (by decide +kernel), List.mem_of_getElem? (i := 738) (by decide +kernel)⟩
theorem lw_p12 : lw_okq (⟨"DoorServer$Server", "tellsSession", "()Z"⟩, 12) := ⟨⟨by decide +kernel, by decide +kernel⟩, List.mem_of_getElem? (i := 97) (by decide +kernel), List.mem_of_getElem? (i := 753) (by decide +kernel), List.mem_of_getElem? (i := 754) (by decide +kernel)⟩
theorem lw_p13 : lw_okq (⟨"DoorServer$Sessions", "placeOf", "(ILDoorServer$Request;)I"⟩, 2) := ⟨⟨by decide +kernel, by decide +kernel⟩, List.mem_of_getElem? (i := 246) (by decide +kernel), List.mem_of_getElem? (i := 775) (by decide +kernel), List.mem_of_getElem? (i := 776) (by decide +kernel)⟩
theorem lw_p14 : lw_okq (⟨"DoorServer$Sessions", "makeRoom", "(I)V"⟩, 2) := ⟨⟨by decide +kernel, by decide +kernel⟩, List.mem_of_getElem? (i := 246) (by decide +kernel), List.mem_of_getElem? (i := 785) (by decide +kernel), List.mem_of_getElem? (i := 786) (by decide +kernel)⟩
theorem lw_p15 : lw_okq (⟨"DoorServer$Server", "beginAnswer", "(I)V"⟩, 12) := ⟨⟨by decide +kernel, by decide +kernel⟩, List.mem_of_getElem? (i := 97) (by decide +kernel), List.mem_of_getElem? (i := 805) (by decide +kernel), List.mem_of_getElem? (i := 806) (by decide +kernel)⟩
def lw_privs_1 : List (MethodName × Nat) := [(⟨"java/lang/Throwable", "fillInStackTrace", "(I)Ljava/lang/Throwable;"⟩, 6), (⟨"DoorServer", "requireRoom", "(I)V"⟩, 2), (⟨"DoorServer", "closedDraft", "()I"⟩, 2), (⟨"DoorServer$Digests", "digestText", "()[I"⟩, 7), (⟨"DoorServer$Digests", "mixBlock", "(I)V"⟩, 7), (⟨"DoorServer", "firstProof", "()I"⟩, 2), (⟨"DoorServer$Digests", "startWithKey", "(LDoorServer$Bytes;I)V"⟩, 7), (⟨"DoorServer$Digests", "appendBlanked", "(LDoorServer$Bytes;I)V"⟩, 7), (⟨"DoorServer$Request", "takes", "(III)Z"⟩, 2), (⟨"DoorServer$Server", "isProved", "(I)Z"⟩, 12), (⟨"DoorServer$Server", "isSealed", "(I)Z"⟩, 12), (⟨"DoorServer$Server", "answersAlike", "(I)Z"⟩, 12), (⟨"DoorServer$Server", "tellsSession", "()Z"⟩, 12), (⟨"DoorServer$Sessions", "placeOf", "(ILDoorServer$Request;)I"⟩, 2), (⟨"DoorServer$Sessions", "makeRoom", "(I)V"⟩, 2), (⟨"DoorServer$Server", "beginAnswer", "(I)V"⟩, 12)]
theorem lw_r1 : ∀ q ∈ lw_privs_1, lw_okq q := List.forall_mem_cons.mpr ⟨lw_p0, List.forall_mem_cons.mpr ⟨lw_p1, List.forall_mem_cons.mpr ⟨lw_p2, List.forall_mem_cons.mpr ⟨lw_p3, List.forall_mem_cons.mpr ⟨lw_p4, List.forall_mem_cons.mpr ⟨lw_p5, List.forall_mem_cons.mpr ⟨lw_p6, List.forall_mem_cons.mpr ⟨lw_p7, List.forall_mem_cons.mpr ⟨lw_p8, List.forall_mem_cons.mpr ⟨lw_p9, List.forall_mem_cons.mpr ⟨lw_p10, List.forall_mem_cons.mpr ⟨lw_p11, List.forall_mem_cons.mpr ⟨lw_p12, List.forall_mem_cons.mpr ⟨lw_p13, List.forall_mem_cons.mpr ⟨lw_p14, List.forall_mem_cons.mpr ⟨lw_p15, fun _ h => absurd h List.not_mem_nil⟩⟩⟩⟩⟩⟩⟩⟩⟩⟩⟩⟩⟩⟩⟩⟩
theorem lw_p16 : lw_okq (⟨"DoorServer$Server", "judge", "(I)V"⟩, 12) := ⟨⟨by decide +kernel, by decide +kernel⟩, List.mem_of_getElem? (i := 97) (by decide +kernel), List.mem_of_getElem? (i := 811) (by decide +kernel), List.mem_of_getElem? (i := 812) (by decide +kernel)⟩
theorem lw_p17 : lw_okq (⟨"DoorServer$Server", "toldUser", "()I"⟩, 12) := ⟨⟨by decide +kernel, by decide +kernel⟩, List.mem_of_getElem? (i := 97) (by decide +kernel), List.mem_of_getElem? (i := 815) (by decide +kernel), List.mem_of_getElem? (i := 816) (by decide +kernel)⟩
theorem lw_p18 : lw_okq (⟨"DoorServer$Trials", "freePlace", "()LDoorServer$Trial;"⟩, 4) := ⟨⟨by decide +kernel, by decide +kernel⟩, List.mem_of_getElem? (i := 192) (by decide +kernel), List.mem_of_getElem? (i := 836) (by decide +kernel), List.mem_of_getElem? (i := 837) (by decide +kernel)⟩
theorem lw_p19 : lw_okq (⟨"DoorServer$Server", "appendChallenge", "(LDoorServer$Trial;)V"⟩, 12) := ⟨⟨by decide +kernel, by decide +kernel⟩, List.mem_of_getElem? (i := 97) (by decide +kernel), List.mem_of_getElem? (i := 842) (by decide +kernel), List.mem_of_getElem? (i := 843) (by decide +kernel)⟩
theorem lw_p20 : lw_okq (⟨"DoorServer$Server", "passwordHolds", "(II)Z"⟩, 12) := ⟨⟨by decide +kernel, by decide +kernel⟩, List.mem_of_getElem? (i := 97) (by decide +kernel), List.mem_of_getElem? (i := 851) (by decide +kernel), List.mem_of_getElem? (i := 852) (by decide +kernel)⟩
theorem lw_p21 : lw_okq (⟨"DoorServer$Server", "replyHolds", "(II)Z"⟩, 12) := ⟨⟨by decide +kernel, by decide +kernel⟩, List.mem_of_getElem? (i := 97) (by decide +kernel), List.mem_of_getElem? (i := 876) (by decide +kernel), List.mem_of_getElem? (i := 877) (by decide +kernel)⟩
theorem lw_p22 : lw_okq (⟨"DoorServer$Server", "appendProof", "(I)V"⟩, 12) := ⟨⟨by decide +kernel, by decide +kernel⟩, List.mem_of_getElem? (i := 97) (by decide +kernel), List.mem_of_getElem? (i := 886) (by decide +kernel), List.mem_of_getElem? (i := 887) (by decide +kernel)⟩
theorem lw_p23 : lw_okq (⟨"DoorServer$Server", "finishAnswer", "(I)V"⟩, 12) := ⟨⟨by decide +kernel, by decide +kernel⟩, List.mem_of_getElem? (i := 97) (by decide +kernel), List.mem_of_getElem? (i := 893) (by decide +kernel), List.mem_of_getElem? (i := 894) (by decide +kernel)⟩
theorem lw_p24 : lw_okq (⟨"DoorServer$Answers", "freePlace", "()LDoorServer$Kept;"⟩, 3) := ⟨⟨by decide +kernel, by decide +kernel⟩, List.mem_of_getElem? (i := 142) (by decide +kernel), List.mem_of_getElem? (i := 907) (by decide +kernel), List.mem_of_getElem? (i := 908) (by decide +kernel)⟩
theorem lw_p25 : lw_okq (⟨"DoorServerModel", "begin", "(IIJ)V"⟩, 45) := ⟨⟨by decide +kernel, by decide +kernel⟩, List.mem_of_getElem? (i := 942) (by decide +kernel), List.mem_of_getElem? (i := 1012) (by decide +kernel), List.mem_of_getElem? (i := 1013) (by decide +kernel)⟩
theorem lw_p26 : lw_okq (⟨"DoorServerModel", "add", "(I)V"⟩, 45) := ⟨⟨by decide +kernel, by decide +kernel⟩, List.mem_of_getElem? (i := 942) (by decide +kernel), List.mem_of_getElem? (i := 1016) (by decide +kernel), List.mem_of_getElem? (i := 1017) (by decide +kernel)⟩
theorem lw_p27 : lw_okq (⟨"DoorServerModel", "goes", "(Z)Z"⟩, 45) := ⟨⟨by decide +kernel, by decide +kernel⟩, List.mem_of_getElem? (i := 942) (by decide +kernel), List.mem_of_getElem? (i := 1166) (by decide +kernel), List.mem_of_getElem? (i := 1167) (by decide +kernel)⟩
theorem lw_p28 : lw_okq (⟨"DoorServerModel", "opens", "(II)Z"⟩, 45) := ⟨⟨by decide +kernel, by decide +kernel⟩, List.mem_of_getElem? (i := 942) (by decide +kernel), List.mem_of_getElem? (i := 1189) (by decide +kernel), List.mem_of_getElem? (i := 1190) (by decide +kernel)⟩
theorem lw_p29 : lw_okq (⟨"DoorServerModel", "closes", "()I"⟩, 45) := ⟨⟨by decide +kernel, by decide +kernel⟩, List.mem_of_getElem? (i := 942) (by decide +kernel), List.mem_of_getElem? (i := 1193) (by decide +kernel), List.mem_of_getElem? (i := 1194) (by decide +kernel)⟩
theorem lw_p30 : lw_okq (⟨"DoorServerModel", "length", "()V"⟩, 45) := ⟨⟨by decide +kernel, by decide +kernel⟩, List.mem_of_getElem? (i := 942) (by decide +kernel), List.mem_of_getElem? (i := 1197) (by decide +kernel), List.mem_of_getElem? (i := 1198) (by decide +kernel)⟩
theorem lw_p31 : lw_okq (⟨"DoorServerModel", "cover", "(II)V"⟩, 45) := ⟨⟨by decide +kernel, by decide +kernel⟩, List.mem_of_getElem? (i := 942) (by decide +kernel), List.mem_of_getElem? (i := 1213) (by decide +kernel), List.mem_of_getElem? (i := 1214) (by decide +kernel)⟩
def lw_privs_2 : List (MethodName × Nat) := [(⟨"DoorServer$Server", "judge", "(I)V"⟩, 12), (⟨"DoorServer$Server", "toldUser", "()I"⟩, 12), (⟨"DoorServer$Trials", "freePlace", "()LDoorServer$Trial;"⟩, 4), (⟨"DoorServer$Server", "appendChallenge", "(LDoorServer$Trial;)V"⟩, 12), (⟨"DoorServer$Server", "passwordHolds", "(II)Z"⟩, 12), (⟨"DoorServer$Server", "replyHolds", "(II)Z"⟩, 12), (⟨"DoorServer$Server", "appendProof", "(I)V"⟩, 12), (⟨"DoorServer$Server", "finishAnswer", "(I)V"⟩, 12), (⟨"DoorServer$Answers", "freePlace", "()LDoorServer$Kept;"⟩, 3), (⟨"DoorServerModel", "begin", "(IIJ)V"⟩, 45), (⟨"DoorServerModel", "add", "(I)V"⟩, 45), (⟨"DoorServerModel", "goes", "(Z)Z"⟩, 45), (⟨"DoorServerModel", "opens", "(II)Z"⟩, 45), (⟨"DoorServerModel", "closes", "()I"⟩, 45), (⟨"DoorServerModel", "length", "()V"⟩, 45), (⟨"DoorServerModel", "cover", "(II)V"⟩, 45)]
theorem lw_r2 : ∀ q ∈ lw_privs_2, lw_okq q := List.forall_mem_cons.mpr ⟨lw_p16, List.forall_mem_cons.mpr ⟨lw_p17, List.forall_mem_cons.mpr ⟨lw_p18, List.forall_mem_cons.mpr ⟨lw_p19, List.forall_mem_cons.mpr ⟨lw_p20, List.forall_mem_cons.mpr ⟨lw_p21, List.forall_mem_cons.mpr ⟨lw_p22, List.forall_mem_cons.mpr ⟨lw_p23, List.forall_mem_cons.mpr ⟨lw_p24, List.forall_mem_cons.mpr ⟨lw_p25, List.forall_mem_cons.mpr ⟨lw_p26, List.forall_mem_cons.mpr ⟨lw_p27, List.forall_mem_cons.mpr ⟨lw_p28, List.forall_mem_cons.mpr ⟨lw_p29, List.forall_mem_cons.mpr ⟨lw_p30, List.forall_mem_cons.mpr ⟨lw_p31, fun _ h => absurd h List.not_mem_nil⟩⟩⟩⟩⟩⟩⟩⟩⟩⟩⟩⟩⟩⟩⟩⟩
theorem lw_p32 : lw_okq (⟨"DoorServerModel", "saySecret", "(I)V"⟩, 45) := ⟨⟨by decide +kernel, by decide +kernel⟩, List.mem_of_getElem? (i := 942) (by decide +kernel), List.mem_of_getElem? (i := 1217) (by decide +kernel), List.mem_of_getElem? (i := 1218) (by decide +kernel)⟩
theorem lw_p33 : lw_okq (⟨"DoorServerModel", "say", "(I)V"⟩, 45) := ⟨⟨by decide +kernel, by decide +kernel⟩, List.mem_of_getElem? (i := 942) (by decide +kernel), List.mem_of_getElem? (i := 1221) (by decide +kernel), List.mem_of_getElem? (i := 1222) (by decide +kernel)⟩
theorem lw_p34 : lw_okq (⟨"DoorServerModel", "md5", "()V"⟩, 45) := ⟨⟨by decide +kernel, by decide +kernel⟩, List.mem_of_getElem? (i := 942) (by decide +kernel), List.mem_of_getElem? (i := 1225) (by decide +kernel), List.mem_of_getElem? (i := 1226) (by decide +kernel)⟩
theorem lw_p35 : lw_okq (⟨"DoorServerModel", "wordAt", "(II)J"⟩, 45) := ⟨⟨by decide +kernel, by decide +kernel⟩, List.mem_of_getElem? (i := 942) (by decide +kernel), List.mem_of_getElem? (i := 1237) (by decide +kernel), List.mem_of_getElem? (i := 1238) (by decide +kernel)⟩
theorem lw_p36 : lw_okq (⟨"DoorServerModel", "proofPlace", "()I"⟩, 45) := ⟨⟨by decide +kernel, by decide +kernel⟩, List.mem_of_getElem? (i := 942) (by decide +kernel), List.mem_of_getElem? (i := 1260) (by decide +kernel), List.mem_of_getElem? (i := 1261) (by decide +kernel)⟩
theorem lw_p37 : lw_okq (⟨"DoorServerModel", "proof", "(II)V"⟩, 45) := ⟨⟨by decide +kernel, by decide +kernel⟩, List.mem_of_getElem? (i := 942) (by decide +kernel), List.mem_of_getElem? (i := 1264) (by decide +kernel), List.mem_of_getElem? (i := 1265) (by decide +kernel)⟩
theorem lw_p38 : lw_okq (⟨"DoorServerModel", "keyed", "(I)V"⟩, 45) := ⟨⟨by decide +kernel, by decide +kernel⟩, List.mem_of_getElem? (i := 942) (by decide +kernel), List.mem_of_getElem? (i := 1268) (by decide +kernel), List.mem_of_getElem? (i := 1269) (by decide +kernel)⟩
theorem lw_p39 : lw_okq (⟨"DoorServerModel", "authenticator", "(I)V"⟩, 45) := ⟨⟨by decide +kernel, by decide +kernel⟩, List.mem_of_getElem? (i := 942) (by decide +kernel), List.mem_of_getElem? (i := 1276) (by decide +kernel), List.mem_of_getElem? (i := 1277) (by decide +kernel)⟩
theorem lw_p40 : lw_okq (⟨"DoorServerModel", "isWhole", "()Z"⟩, 45) := ⟨⟨by decide +kernel, by decide +kernel⟩, List.mem_of_getElem? (i := 942) (by decide +kernel), List.mem_of_getElem? (i := 1288) (by decide +kernel), List.mem_of_getElem? (i := 1289) (by decide +kernel)⟩
theorem lw_p41 : lw_okq (⟨"DoorServerModel", "find", "(I)I"⟩, 45) := ⟨⟨by decide +kernel, by decide +kernel⟩, List.mem_of_getElem? (i := 942) (by decide +kernel), List.mem_of_getElem? (i := 1295) (by decide +kernel), List.mem_of_getElem? (i := 1296) (by decide +kernel)⟩
theorem lw_p42 : lw_okq (⟨"DoorServerModel", "findEnd", "()Z"⟩, 45) := ⟨⟨by decide +kernel, by decide +kernel⟩, List.mem_of_getElem? (i := 942) (by decide +kernel), List.mem_of_getElem? (i := 1302) (by decide +kernel), List.mem_of_getElem? (i := 1303) (by decide +kernel)⟩
theorem lw_p43 : lw_okq (⟨"DoorServerModel", "has", "(I)Z"⟩, 45) := ⟨⟨by decide +kernel, by decide +kernel⟩, List.mem_of_getElem? (i := 942) (by decide +kernel), List.mem_of_getElem? (i := 1306) (by decide +kernel), List.mem_of_getElem? (i := 1307) (by decide +kernel)⟩
theorem lw_p44 : lw_okq (⟨"DoorServerModel", "valueAt", "(I)I"⟩, 45) := ⟨⟨by decide +kernel, by decide +kernel⟩, List.mem_of_getElem? (i := 942) (by decide +kernel), List.mem_of_getElem? (i := 1310) (by decide +kernel), List.mem_of_getElem? (i := 1311) (by decide +kernel)⟩
theorem lw_p45 : lw_okq (⟨"DoorServerModel", "isDigestAt", "(I)Z"⟩, 45) := ⟨⟨by decide +kernel, by decide +kernel⟩, List.mem_of_getElem? (i := 942) (by decide +kernel), List.mem_of_getElem? (i := 1314) (by decide +kernel), List.mem_of_getElem? (i := 1315) (by decide +kernel)⟩
theorem lw_p46 : lw_okq (⟨"DoorServerModel", "keptAnswer", "(I)I"⟩, 45) := ⟨⟨by decide +kernel, by decide +kernel⟩, List.mem_of_getElem? (i := 942) (by decide +kernel), List.mem_of_getElem? (i := 1318) (by decide +kernel), List.mem_of_getElem? (i := 1319) (by decide +kernel)⟩
theorem lw_p47 : lw_okq (⟨"DoorServerModel", "enter", "(I)I"⟩, 45) := ⟨⟨by decide +kernel, by decide +kernel⟩, List.mem_of_getElem? (i := 942) (by decide +kernel), List.mem_of_getElem? (i := 1322) (by decide +kernel), List.mem_of_getElem? (i := 1323) (by decide +kernel)⟩
def lw_privs_3 : List (MethodName × Nat) := [(⟨"DoorServerModel", "saySecret", "(I)V"⟩, 45), (⟨"DoorServerModel", "say", "(I)V"⟩, 45), (⟨"DoorServerModel", "md5", "()V"⟩, 45), (⟨"DoorServerModel", "wordAt", "(II)J"⟩, 45), (⟨"DoorServerModel", "proofPlace", "()I"⟩, 45), (⟨"DoorServerModel", "proof", "(II)V"⟩, 45), (⟨"DoorServerModel", "keyed", "(I)V"⟩, 45), (⟨"DoorServerModel", "authenticator", "(I)V"⟩, 45), (⟨"DoorServerModel", "isWhole", "()Z"⟩, 45), (⟨"DoorServerModel", "find", "(I)I"⟩, 45), (⟨"DoorServerModel", "findEnd", "()Z"⟩, 45), (⟨"DoorServerModel", "has", "(I)Z"⟩, 45), (⟨"DoorServerModel", "valueAt", "(I)I"⟩, 45), (⟨"DoorServerModel", "isDigestAt", "(I)Z"⟩, 45), (⟨"DoorServerModel", "keptAnswer", "(I)I"⟩, 45), (⟨"DoorServerModel", "enter", "(I)I"⟩, 45)]
theorem lw_r3 : ∀ q ∈ lw_privs_3, lw_okq q := List.forall_mem_cons.mpr ⟨lw_p32, List.forall_mem_cons.mpr ⟨lw_p33, List.forall_mem_cons.mpr ⟨lw_p34, List.forall_mem_cons.mpr ⟨lw_p35, List.forall_mem_cons.mpr ⟨lw_p36, List.forall_mem_cons.mpr ⟨lw_p37, List.forall_mem_cons.mpr ⟨lw_p38, List.forall_mem_cons.mpr ⟨lw_p39, List.forall_mem_cons.mpr ⟨lw_p40, List.forall_mem_cons.mpr ⟨lw_p41, List.forall_mem_cons.mpr ⟨lw_p42, List.forall_mem_cons.mpr ⟨lw_p43, List.forall_mem_cons.mpr ⟨lw_p44, List.forall_mem_cons.mpr ⟨lw_p45, List.forall_mem_cons.mpr ⟨lw_p46, List.forall_mem_cons.mpr ⟨lw_p47, fun _ h => absurd h List.not_mem_nil⟩⟩⟩⟩⟩⟩⟩⟩⟩⟩⟩⟩⟩⟩⟩⟩
theorem lw_p48 : lw_okq (⟨"DoorServerModel", "userOf", "()I"⟩, 45) := ⟨⟨by decide +kernel, by decide +kernel⟩, List.mem_of_getElem? (i := 942) (by decide +kernel), List.mem_of_getElem? (i := 1326) (by decide +kernel), List.mem_of_getElem? (i := 1327) (by decide +kernel)⟩
theorem lw_p49 : lw_okq (⟨"DoorServerModel", "sizeOf", "(I)I"⟩, 45) := ⟨⟨by decide +kernel, by decide +kernel⟩, List.mem_of_getElem? (i := 942) (by decide +kernel), List.mem_of_getElem? (i := 1330) (by decide +kernel), List.mem_of_getElem? (i := 1331) (by decide +kernel)⟩
theorem lw_p50 : lw_okq (⟨"DoorServerModel", "open", "(I)V"⟩, 45) := ⟨⟨by decide +kernel, by decide +kernel⟩, List.mem_of_getElem? (i := 942) (by decide +kernel), List.mem_of_getElem? (i := 1334) (by decide +kernel), List.mem_of_getElem? (i := 1335) (by decide +kernel)⟩
theorem lw_p51 : lw_okq (⟨"DoorServerModel", "tell", "(I)V"⟩, 45) := ⟨⟨by decide +kernel, by decide +kernel⟩, List.mem_of_getElem? (i := 942) (by decide +kernel), List.mem_of_getElem? (i := 1338) (by decide +kernel), List.mem_of_getElem? (i := 1339) (by decide +kernel)⟩
theorem lw_p52 : lw_okq (⟨"DoorServerModel", "isPassword", "(II)Z"⟩, 45) := ⟨⟨by decide +kernel, by decide +kernel⟩, List.mem_of_getElem? (i := 942) (by decide +kernel), List.mem_of_getElem? (i := 1342) (by decide +kernel), List.mem_of_getElem? (i := 1343) (by decide +kernel)⟩
theorem lw_p53 : lw_okq (⟨"DoorServerModel", "talks", "(II)V"⟩, 45) := ⟨⟨by decide +kernel, by decide +kernel⟩, List.mem_of_getElem? (i := 942) (by decide +kernel), List.mem_of_getElem? (i := 1346) (by decide +kernel), List.mem_of_getElem? (i := 1347) (by decide +kernel)⟩
theorem lw_p54 : lw_okq (⟨"DoorServerModel", "challenge", "(III)V"⟩, 45) := ⟨⟨by decide +kernel, by decide +kernel⟩, List.mem_of_getElem? (i := 942) (by decide +kernel), List.mem_of_getElem? (i := 1350) (by decide +kernel), List.mem_of_getElem? (i := 1351) (by decide +kernel)⟩
theorem lw_p55 : lw_okq (⟨"DoorServerModel", "dropTrial", "(I)V"⟩, 45) := ⟨⟨by decide +kernel, by decide +kernel⟩, List.mem_of_getElem? (i := 942) (by decide +kernel), List.mem_of_getElem? (i := 1354) (by decide +kernel), List.mem_of_getElem? (i := 1355) (by decide +kernel)⟩
theorem lw_p56 : lw_okq (⟨"DoorServerModel", "isMet", "(IIII)Z"⟩, 45) := ⟨⟨by decide +kernel, by decide +kernel⟩, List.mem_of_getElem? (i := 942) (by decide +kernel), List.mem_of_getElem? (i := 1360) (by decide +kernel), List.mem_of_getElem? (i := 1361) (by decide +kernel)⟩
theorem lw_p57 : lw_okq (⟨"DoorServerModel", "close", "(I)I"⟩, 45) := ⟨⟨by decide +kernel, by decide +kernel⟩, List.mem_of_getElem? (i := 942) (by decide +kernel), List.mem_of_getElem? (i := 1364) (by decide +kernel), List.mem_of_getElem? (i := 1365) (by decide +kernel)⟩
theorem lw_p58 : lw_okq (⟨"DoorServerModel", "keep", "(I)V"⟩, 45) := ⟨⟨by decide +kernel, by decide +kernel⟩, List.mem_of_getElem? (i := 942) (by decide +kernel), List.mem_of_getElem? (i := 1368) (by decide +kernel), List.mem_of_getElem? (i := 1369) (by decide +kernel)⟩
theorem lw_p59 : lw_okq (⟨"DoorServerModel", "dropAnswer", "(I)V"⟩, 45) := ⟨⟨by decide +kernel, by decide +kernel⟩, List.mem_of_getElem? (i := 942) (by decide +kernel), List.mem_of_getElem? (i := 1372) (by decide +kernel), List.mem_of_getElem? (i := 1373) (by decide +kernel)⟩
theorem lw_p60 : lw_okq (⟨"DoorServerModel", "copyAnswer", "(II)V"⟩, 45) := ⟨⟨by decide +kernel, by decide +kernel⟩, List.mem_of_getElem? (i := 942) (by decide +kernel), List.mem_of_getElem? (i := 1376) (by decide +kernel), List.mem_of_getElem? (i := 1377) (by decide +kernel)⟩
theorem lw_p61 : lw_okq (⟨"DoorServerModel", "write", "(I)I"⟩, 45) := ⟨⟨by decide +kernel, by decide +kernel⟩, List.mem_of_getElem? (i := 942) (by decide +kernel), List.mem_of_getElem? (i := 1380) (by decide +kernel), List.mem_of_getElem? (i := 1381) (by decide +kernel)⟩
theorem lw_p62 : lw_okq (⟨"DoorServerModel", "fourOf", "(I)J"⟩, 45) := ⟨⟨by decide +kernel, by decide +kernel⟩, List.mem_of_getElem? (i := 942) (by decide +kernel), List.mem_of_getElem? (i := 1384) (by decide +kernel), List.mem_of_getElem? (i := 1385) (by decide +kernel)⟩
theorem lw_p63 : lw_okq (⟨"DoorServerModel", "recordOf", "(I)I"⟩, 45) := ⟨⟨by decide +kernel, by decide +kernel⟩, List.mem_of_getElem? (i := 942) (by decide +kernel), List.mem_of_getElem? (i := 1390) (by decide +kernel), List.mem_of_getElem? (i := 1391) (by decide +kernel)⟩
def lw_privs_4 : List (MethodName × Nat) := [(⟨"DoorServerModel", "userOf", "()I"⟩, 45), (⟨"DoorServerModel", "sizeOf", "(I)I"⟩, 45), (⟨"DoorServerModel", "open", "(I)V"⟩, 45), (⟨"DoorServerModel", "tell", "(I)V"⟩, 45), (⟨"DoorServerModel", "isPassword", "(II)Z"⟩, 45), (⟨"DoorServerModel", "talks", "(II)V"⟩, 45), (⟨"DoorServerModel", "challenge", "(III)V"⟩, 45), (⟨"DoorServerModel", "dropTrial", "(I)V"⟩, 45), (⟨"DoorServerModel", "isMet", "(IIII)Z"⟩, 45), (⟨"DoorServerModel", "close", "(I)I"⟩, 45), (⟨"DoorServerModel", "keep", "(I)V"⟩, 45), (⟨"DoorServerModel", "dropAnswer", "(I)V"⟩, 45), (⟨"DoorServerModel", "copyAnswer", "(II)V"⟩, 45), (⟨"DoorServerModel", "write", "(I)I"⟩, 45), (⟨"DoorServerModel", "fourOf", "(I)J"⟩, 45), (⟨"DoorServerModel", "recordOf", "(I)I"⟩, 45)]
theorem lw_r4 : ∀ q ∈ lw_privs_4, lw_okq q := List.forall_mem_cons.mpr ⟨lw_p48, List.forall_mem_cons.mpr ⟨lw_p49, List.forall_mem_cons.mpr ⟨lw_p50, List.forall_mem_cons.mpr ⟨lw_p51, List.forall_mem_cons.mpr ⟨lw_p52, List.forall_mem_cons.mpr ⟨lw_p53, List.forall_mem_cons.mpr ⟨lw_p54, List.forall_mem_cons.mpr ⟨lw_p55, List.forall_mem_cons.mpr ⟨lw_p56, List.forall_mem_cons.mpr ⟨lw_p57, List.forall_mem_cons.mpr ⟨lw_p58, List.forall_mem_cons.mpr ⟨lw_p59, List.forall_mem_cons.mpr ⟨lw_p60, List.forall_mem_cons.mpr ⟨lw_p61, List.forall_mem_cons.mpr ⟨lw_p62, List.forall_mem_cons.mpr ⟨lw_p63, fun _ h => absurd h List.not_mem_nil⟩⟩⟩⟩⟩⟩⟩⟩⟩⟩⟩⟩⟩⟩⟩⟩
theorem lw_p64 : lw_okq (⟨"DoorServerModel", "isBefore", "(II)Z"⟩, 45) := ⟨⟨by decide +kernel, by decide +kernel⟩, List.mem_of_getElem? (i := 942) (by decide +kernel), List.mem_of_getElem? (i := 1415) (by decide +kernel), List.mem_of_getElem? (i := 1416) (by decide +kernel)⟩
def lw_privs_5 : List (MethodName × Nat) := [(⟨"DoorServerModel", "isBefore", "(II)Z"⟩, 45)]
theorem lw_r5 : ∀ q ∈ lw_privs_5, lw_okq q := List.forall_mem_cons.mpr ⟨lw_p64, fun _ h => absurd h List.not_mem_nil⟩
def lw_privs : List (MethodName × Nat) := lw_privs_1 ++ (lw_privs_2 ++ (lw_privs_3 ++ (lw_privs_4 ++ (lw_privs_5))))
def lw_tbl : List Cond := k2_sels lw_privs ++ tables_1
theorem lw_privs_ok : ∀ q ∈ lw_privs, lw_okq q := by
  show ∀ q ∈ lw_privs_1 ++ (lw_privs_2 ++ (lw_privs_3 ++ (lw_privs_4 ++ (lw_privs_5)))), lw_okq q
  exact List.forall_mem_append.mpr ⟨lw_r1, List.forall_mem_append.mpr ⟨lw_r2, List.forall_mem_append.mpr ⟨lw_r3, List.forall_mem_append.mpr ⟨lw_r4, lw_r5⟩⟩⟩⟩

def R_DS : String := "DoorServer"
def F_DS : u_T := fun k => match k with
  | 0 => ("DoorServer", "draft", "LDoorServer$Packet;", true)
  | _ => ("DoorServer", "server", "LDoorServer$Server;", true)
def t_DS : Nat → FieldType := fun k => match k with
  | 0 => .object "DoorServer$Packet"
  | _ => .object "DoorServer$Server"
theorem nm_DS : ∀ a, a < 2 → ∀ b, b < 2 → a ≠ b → (F_DS a).2.1 ≠ (F_DS b).2.1 := by decide +kernel
theorem tok_DS : ∀ k, k < 2 → parseFieldDescriptor (F_DS k).2.2.1 = some (t_DS k) := by decide +kernel
def R_By : String := "DoorServer$Bytes"
def F_By : u_T := fun k => match k with
  | 0 => ("DoorServer$Bytes", "row", "[I", true)
  | _ => ("DoorServer$Bytes", "length", "I", false)
def t_By : Nat → FieldType := fun k => match k with
  | 0 => .array .int
  | _ => .int
theorem nm_By : ∀ a, a < 2 → ∀ b, b < 2 → a ≠ b → (F_By a).2.1 ≠ (F_By b).2.1 := by decide +kernel
theorem tok_By : ∀ k, k < 2 → parseFieldDescriptor (F_By k).2.2.1 = some (t_By k) := by decide +kernel
def R_Pk : String := "DoorServer$Packet"
def F_Pk : u_T := fun k => match k with
  | 0 => ("DoorServer$Bytes", "row", "[I", true)
  | _ => ("DoorServer$Bytes", "length", "I", false)
def t_Pk : Nat → FieldType := fun k => match k with
  | 0 => .array .int
  | _ => .int
theorem nm_Pk : ∀ a, a < 2 → ∀ b, b < 2 → a ≠ b → (F_Pk a).2.1 ≠ (F_Pk b).2.1 := by decide +kernel
theorem tok_Pk : ∀ k, k < 2 → parseFieldDescriptor (F_Pk k).2.2.1 = some (t_Pk k) := by decide +kernel
def R_Dg : String := "DoorServer$Digests"
def F_Dg : u_T := fun k => match k with
  | 0 => ("DoorServer$Digests", "text", "LDoorServer$Bytes;", true)
  | 1 => ("DoorServer$Digests", "words", "[I", true)
  | 2 => ("DoorServer$Digests", "digest", "[I", true)
  | 3 => ("DoorServer$Digests", "a", "I", false)
  | 4 => ("DoorServer$Digests", "b", "I", false)
  | 5 => ("DoorServer$Digests", "c", "I", false)
  | _ => ("DoorServer$Digests", "d", "I", false)
def t_Dg : Nat → FieldType := fun k => match k with
  | 0 => .object "DoorServer$Bytes"
  | 1 => .array .int
  | 2 => .array .int
  | 3 => .int
  | 4 => .int
  | 5 => .int
  | _ => .int
theorem nm_Dg : ∀ a, a < 7 → ∀ b, b < 7 → a ≠ b → (F_Dg a).2.1 ≠ (F_Dg b).2.1 := by decide +kernel
theorem tok_Dg : ∀ k, k < 7 → parseFieldDescriptor (F_Dg k).2.2.1 = some (t_Dg k) := by decide +kernel
def R_Rq : String := "DoorServer$Request"
def F_Rq : u_T := fun k => match k with
  | 0 => ("DoorServer$Request", "packet", "LDoorServer$Packet;", true)
  | _ => ("DoorServer$Request", "starts", "[I", true)
def t_Rq : Nat → FieldType := fun k => match k with
  | 0 => .object "DoorServer$Packet"
  | _ => .array .int
theorem nm_Rq : ∀ a, a < 2 → ∀ b, b < 2 → a ≠ b → (F_Rq a).2.1 ≠ (F_Rq b).2.1 := by decide +kernel
theorem tok_Rq : ∀ k, k < 2 → parseFieldDescriptor (F_Rq k).2.2.1 = some (t_Rq k) := by decide +kernel
def R_Sv : String := "DoorServer$Server"
def F_Sv : u_T := fun k => match k with
  | 0 => ("DoorServer$Server", "secrets", "[LDoorServer$Bytes;", true)
  | 1 => ("DoorServer$Server", "passwords", "[LDoorServer$Bytes;", true)
  | 2 => ("DoorServer$Server", "digests", "LDoorServer$Digests;", true)
  | 3 => ("DoorServer$Server", "typed", "LDoorServer$Bytes;", true)
  | 4 => ("DoorServer$Server", "answer", "LDoorServer$Packet;", true)
  | 5 => ("DoorServer$Server", "answers", "LDoorServer$Answers;", true)
  | 6 => ("DoorServer$Server", "trials", "LDoorServer$Trials;", true)
  | 7 => ("DoorServer$Server", "sessions", "LDoorServer$Sessions;", true)
  | 8 => ("DoorServer$Server", "request", "LDoorServer$Request;", true)
  | 9 => ("DoorServer$Server", "time", "I", false)
  | 10 => ("DoorServer$Server", "anew", "I", false)
  | _ => ("DoorServer$Server", "alike", "I", false)
def t_Sv : Nat → FieldType := fun k => match k with
  | 0 => .array (.object "DoorServer$Bytes")
  | 1 => .array (.object "DoorServer$Bytes")
  | 2 => .object "DoorServer$Digests"
  | 3 => .object "DoorServer$Bytes"
  | 4 => .object "DoorServer$Packet"
  | 5 => .object "DoorServer$Answers"
  | 6 => .object "DoorServer$Trials"
  | 7 => .object "DoorServer$Sessions"
  | 8 => .object "DoorServer$Request"
  | 9 => .int
  | 10 => .int
  | _ => .int
theorem nm_Sv : ∀ a, a < 12 → ∀ b, b < 12 → a ≠ b → (F_Sv a).2.1 ≠ (F_Sv b).2.1 := by decide +kernel
theorem tok_Sv : ∀ k, k < 12 → parseFieldDescriptor (F_Sv k).2.2.1 = some (t_Sv k) := by decide +kernel
def R_An : String := "DoorServer$Answers"
def F_An : u_T := fun k => match k with
  | 0 => ("DoorServer$Answers", "places", "[LDoorServer$Kept;", true)
  | 1 => ("DoorServer$Answers", "turns", "I", false)
  | _ => ("DoorServer$Answers", "kept", "I", false)
def t_An : Nat → FieldType := fun k => match k with
  | 0 => .array (.object "DoorServer$Kept")
  | 1 => .int
  | _ => .int
theorem nm_An : ∀ a, a < 3 → ∀ b, b < 3 → a ≠ b → (F_An a).2.1 ≠ (F_An b).2.1 := by decide +kernel
theorem tok_An : ∀ k, k < 3 → parseFieldDescriptor (F_An k).2.2.1 = some (t_An k) := by decide +kernel
def R_Ke : String := "DoorServer$Kept"
def F_Ke : u_T := fun k => match k with
  | 0 => ("DoorServer$Kept", "station", "I", false)
  | 1 => ("DoorServer$Kept", "identifier", "I", false)
  | 2 => ("DoorServer$Kept", "givenAt", "I", false)
  | 3 => ("DoorServer$Kept", "turn", "I", false)
  | 4 => ("DoorServer$Kept", "asked", "[I", true)
  | _ => ("DoorServer$Kept", "answer", "LDoorServer$Bytes;", true)
def t_Ke : Nat → FieldType := fun k => match k with
  | 0 => .int
  | 1 => .int
  | 2 => .int
  | 3 => .int
  | 4 => .array .int
  | _ => .object "DoorServer$Bytes"
theorem nm_Ke : ∀ a, a < 6 → ∀ b, b < 6 → a ≠ b → (F_Ke a).2.1 ≠ (F_Ke b).2.1 := by decide +kernel
theorem tok_Ke : ∀ k, k < 6 → parseFieldDescriptor (F_Ke k).2.2.1 = some (t_Ke k) := by decide +kernel
def R_Tl : String := "DoorServer$Trial"
def F_Tl : u_T := fun k => match k with
  | 0 => ("DoorServer$Trial", "open", "Z", false)
  | 1 => ("DoorServer$Trial", "mark", "J", false)
  | 2 => ("DoorServer$Trial", "station", "I", false)
  | 3 => ("DoorServer$Trial", "user", "I", false)
  | 4 => ("DoorServer$Trial", "number", "I", false)
  | 5 => ("DoorServer$Trial", "givenAt", "I", false)
  | _ => ("DoorServer$Trial", "drawn", "[I", true)
def t_Tl : Nat → FieldType := fun k => match k with
  | 0 => .boolean
  | 1 => .long
  | 2 => .int
  | 3 => .int
  | 4 => .int
  | 5 => .int
  | _ => .array .int
theorem nm_Tl : ∀ a, a < 7 → ∀ b, b < 7 → a ≠ b → (F_Tl a).2.1 ≠ (F_Tl b).2.1 := by decide +kernel
theorem tok_Tl : ∀ k, k < 7 → parseFieldDescriptor (F_Tl k).2.2.1 = some (t_Tl k) := by decide +kernel
def R_Ts : String := "DoorServer$Trials"
def F_Ts : u_T := fun k => match k with
  | 0 => ("DoorServer$Trials", "places", "[LDoorServer$Trial;", true)
  | 1 => ("DoorServer$Trials", "marks", "J", false)
  | 2 => ("DoorServer$Trials", "drawing", "J", false)
  | _ => ("DoorServer$Trials", "kept", "I", false)
def t_Ts : Nat → FieldType := fun k => match k with
  | 0 => .array (.object "DoorServer$Trial")
  | 1 => .long
  | 2 => .long
  | _ => .int
theorem nm_Ts : ∀ a, a < 4 → ∀ b, b < 4 → a ≠ b → (F_Ts a).2.1 ≠ (F_Ts b).2.1 := by decide +kernel
theorem tok_Ts : ∀ k, k < 4 → parseFieldDescriptor (F_Ts k).2.2.1 = some (t_Ts k) := by decide +kernel
def R_Se : String := "DoorServer$Session"
def F_Se : u_T := fun k => match k with
  | 0 => ("DoorServer$Session", "station", "I", false)
  | 1 => ("DoorServer$Session", "label", "LDoorServer$Bytes;", true)
  | 2 => ("DoorServer$Session", "lastOfName", "I", false)
  | 3 => ("DoorServer$Session", "closed", "Z", false)
  | 4 => ("DoorServer$Session", "cameAt", "I", false)
  | 5 => ("DoorServer$Session", "changedAt", "I", false)
  | 6 => ("DoorServer$Session", "in", "J", false)
  | _ => ("DoorServer$Session", "out", "J", false)
def t_Se : Nat → FieldType := fun k => match k with
  | 0 => .int
  | 1 => .object "DoorServer$Bytes"
  | 2 => .int
  | 3 => .boolean
  | 4 => .int
  | 5 => .int
  | 6 => .long
  | _ => .long
theorem nm_Se : ∀ a, a < 8 → ∀ b, b < 8 → a ≠ b → (F_Se a).2.1 ≠ (F_Se b).2.1 := by decide +kernel
theorem tok_Se : ∀ k, k < 8 → parseFieldDescriptor (F_Se k).2.2.1 = some (t_Se k) := by decide +kernel
def R_Ss : String := "DoorServer$Sessions"
def F_Ss : u_T := fun k => match k with
  | 0 => ("DoorServer$Sessions", "sorted", "[LDoorServer$Session;", true)
  | _ => ("DoorServer$Sessions", "kept", "I", false)
def t_Ss : Nat → FieldType := fun k => match k with
  | 0 => .array (.object "DoorServer$Session")
  | _ => .int
theorem nm_Ss : ∀ a, a < 2 → ∀ b, b < 2 → a ≠ b → (F_Ss a).2.1 ≠ (F_Ss b).2.1 := by decide +kernel
theorem tok_Ss : ∀ k, k < 2 → parseFieldDescriptor (F_Ss k).2.2.1 = some (t_Ss k) := by decide +kernel
def R_Md : String := "DoorServerModel"
def F_Md : u_T := fun k => match k with
  | 0 => ("DoorServerModel", "sines", "[J", true)
  | 1 => ("DoorServerModel", "code", "I", false)
  | 2 => ("DoorServerModel", "time", "I", false)
  | 3 => ("DoorServerModel", "secret", "[I", true)
  | 4 => ("DoorServerModel", "secretSize", "[I", true)
  | 5 => ("DoorServerModel", "word", "[I", true)
  | 6 => ("DoorServerModel", "wordSize", "[I", true)
  | 7 => ("DoorServerModel", "draft", "[I", true)
  | 8 => ("DoorServerModel", "size", "I", false)
  | 9 => ("DoorServerModel", "text", "[I", true)
  | 10 => ("DoorServerModel", "texts", "I", false)
  | 11 => ("DoorServerModel", "digest", "[I", true)
  | 12 => ("DoorServerModel", "kept", "[I", true)
  | 13 => ("DoorServerModel", "last", "[I", true)
  | 14 => ("DoorServerModel", "lastSize", "I", false)
  | 15 => ("DoorServerModel", "answer", "[I", true)
  | 16 => ("DoorServerModel", "answerSize", "I", false)
  | 17 => ("DoorServerModel", "answers", "I", false)
  | 18 => ("DoorServerModel", "answerStation", "[I", true)
  | 19 => ("DoorServerModel", "answerIdentifier", "[I", true)
  | 20 => ("DoorServerModel", "answerTime", "[I", true)
  | 21 => ("DoorServerModel", "answerLength", "[I", true)
  | 22 => ("DoorServerModel", "answerBytes", "[I", true)
  | 23 => ("DoorServerModel", "answerAsked", "[I", true)
  | 24 => ("DoorServerModel", "trials", "I", false)
  | 25 => ("DoorServerModel", "trialMark", "[J", true)
  | 26 => ("DoorServerModel", "trialStation", "[I", true)
  | 27 => ("DoorServerModel", "trialUser", "[I", true)
  | 28 => ("DoorServerModel", "trialNumber", "[I", true)
  | 29 => ("DoorServerModel", "trialTime", "[I", true)
  | 30 => ("DoorServerModel", "trialDrawn", "[I", true)
  | 31 => ("DoorServerModel", "marks", "J", false)
  | 32 => ("DoorServerModel", "drawing", "J", false)
  | 33 => ("DoorServerModel", "records", "I", false)
  | 34 => ("DoorServerModel", "recordStation", "[I", true)
  | 35 => ("DoorServerModel", "recordSize", "[I", true)
  | 36 => ("DoorServerModel", "recordBytes", "[I", true)
  | 37 => ("DoorServerModel", "recordName", "[I", true)
  | 38 => ("DoorServerModel", "recordClosed", "[I", true)
  | 39 => ("DoorServerModel", "recordCame", "[I", true)
  | 40 => ("DoorServerModel", "recordChanged", "[I", true)
  | 41 => ("DoorServerModel", "recordIn", "[J", true)
  | 42 => ("DoorServerModel", "recordOut", "[J", true)
  | 43 => ("DoorServerModel", "anew", "I", false)
  | _ => ("DoorServerModel", "alike", "I", false)
def t_Md : Nat → FieldType := fun k => match k with
  | 0 => .array .long
  | 1 => .int
  | 2 => .int
  | 3 => .array .int
  | 4 => .array .int
  | 5 => .array .int
  | 6 => .array .int
  | 7 => .array .int
  | 8 => .int
  | 9 => .array .int
  | 10 => .int
  | 11 => .array .int
  | 12 => .array .int
  | 13 => .array .int
  | 14 => .int
  | 15 => .array .int
  | 16 => .int
  | 17 => .int
  | 18 => .array .int
  | 19 => .array .int
  | 20 => .array .int
  | 21 => .array .int
  | 22 => .array .int
  | 23 => .array .int
  | 24 => .int
  | 25 => .array .long
  | 26 => .array .int
  | 27 => .array .int
  | 28 => .array .int
  | 29 => .array .int
  | 30 => .array .int
  | 31 => .long
  | 32 => .long
  | 33 => .int
  | 34 => .array .int
  | 35 => .array .int
  | 36 => .array .int
  | 37 => .array .int
  | 38 => .array .int
  | 39 => .array .int
  | 40 => .array .int
  | 41 => .array .long
  | 42 => .array .long
  | 43 => .int
  | _ => .int
theorem nm_Md : ∀ a, a < 45 → ∀ b, b < 45 → a ≠ b → (F_Md a).2.1 ≠ (F_Md b).2.1 := by decide +kernel
theorem tok_Md : ∀ k, k < 45 → parseFieldDescriptor (F_Md k).2.2.1 = some (t_Md k) := by decide +kernel
abbrev vcl : List vw_C := [(R_DS, F_DS, 2), (R_By, F_By, 2), (R_Pk, F_Pk, 2), (R_Dg, F_Dg, 7), (R_Rq, F_Rq, 2), (R_Sv, F_Sv, 12), (R_An, F_An, 3), (R_Ke, F_Ke, 6), (R_Tl, F_Tl, 7), (R_Ts, F_Ts, 4), (R_Se, F_Se, 8), (R_Ss, F_Ss, 2), (R_Md, F_Md, 45)]
/-- the words of the tables that any method may hand on -/
def BIG : List Cond := lw_tbl.filter goodWord
theorem big_good : ∀ w ∈ BIG, (w.onTables && w.keeps) = true ∨ ∃ ty, w = .arrayClass ty := fun w h => good_of_word (List.mem_filter.mp h).2
theorem gI {l : List Cond} (h : ∀ w ∈ l, w ∈ BIG) : GoodIn BIG l := fun w hw => ⟨h w hw, big_good w (h w hw)⟩
theorem big_in {w : Cond} (h : w ∈ tables_1) (hg : goodWord w = true) : w ∈ BIG := List.mem_filter.mpr ⟨List.mem_append_right _ h, hg⟩
theorem big_sel {q : MethodName} {n : Nat} (h : (q, n) ∈ lw_privs) : Cond.selects q.cls q q ∈ BIG := List.mem_filter.mpr ⟨List.mem_append_left _ (List.mem_map.mpr ⟨(q, n), h, rfl⟩), rfl⟩
theorem tb_1 {w : Cond} (h : w ∈ tables_1_1) : w ∈ tables_1 := List.mem_append_left _ h
theorem tb_2 {w : Cond} (h : w ∈ tables_1_2) : w ∈ tables_1 := List.mem_append_right _ (List.mem_append_left _ h)
theorem tb_3 {w : Cond} (h : w ∈ tables_1_3) : w ∈ tables_1 := List.mem_append_right _ (List.mem_append_right _ (List.mem_append_left _ h))
theorem tb_4 {w : Cond} (h : w ∈ tables_1_4) : w ∈ tables_1 := List.mem_append_right _ (List.mem_append_right _ (List.mem_append_right _ (List.mem_append_left _ h)))
theorem tb_5 {w : Cond} (h : w ∈ tables_1_5) : w ∈ tables_1 := List.mem_append_right _ (List.mem_append_right _ (List.mem_append_right _ (List.mem_append_right _ (List.mem_append_left _ h))))
theorem tb_6 {w : Cond} (h : w ∈ tables_1_6) : w ∈ tables_1 := List.mem_append_right _ (List.mem_append_right _ (List.mem_append_right _ (List.mem_append_right _ (List.mem_append_right _ (h)))))
def y_DS_init : MethodName := ⟨"DoorServer", "<init>", "()V"⟩
abbrev b_DS_init : ByteArray := prog_1_method_1_code
def y_Ob_init : MethodName := ⟨"java/lang/Object", "<init>", "()V"⟩
abbrev b_Ob_init : ByteArray := object_method_1_code
def y_Pk_init : MethodName := ⟨"DoorServer$Packet", "<init>", "(I)V"⟩
abbrev b_Pk_init : ByteArray := prog_6_method_1_code
def y_By_init : MethodName := ⟨"DoorServer$Bytes", "<init>", "(I)V"⟩
abbrev b_By_init : ByteArray := prog_3_method_1_code
def y_Pk_begin : MethodName := ⟨"DoorServer$Packet", "begin", "(II)V"⟩
abbrev b_Pk_begin : ByteArray := prog_6_method_2_code
def y_Pk_append : MethodName := ⟨"DoorServer$Packet", "append", "(I)V"⟩
def y_By_append : MethodName := ⟨"DoorServer$Bytes", "append", "(I)V"⟩
abbrev b_By_append : ByteArray := prog_3_method_2_code
def y_Pk_appendNumber : MethodName := ⟨"DoorServer$Packet", "appendNumber", "(JI)V"⟩
def y_By_appendNumber : MethodName := ⟨"DoorServer$Bytes", "appendNumber", "(JI)V"⟩
abbrev b_By_appendNumber : ByteArray := prog_3_method_4_code
def y_Pk_appendZeros : MethodName := ⟨"DoorServer$Packet", "appendZeros", "(I)V"⟩
def y_By_appendZeros : MethodName := ⟨"DoorServer$Bytes", "appendZeros", "(I)V"⟩
abbrev b_By_appendZeros : ByteArray := prog_3_method_3_code
def y_Pk_setAuthenticator : MethodName := ⟨"DoorServer$Packet", "setAuthenticator", "(J)V"⟩
abbrev b_Pk_setAuthenticator : ByteArray := prog_6_method_3_code
def y_Sv_init : MethodName := ⟨"DoorServer$Server", "<init>", "(LDoorServer$Packet;)V"⟩
abbrev b_Sv_init : ByteArray := prog_8_method_1_code
def y_Dg_init : MethodName := ⟨"DoorServer$Digests", "<init>", "()V"⟩
abbrev b_Dg_init : ByteArray := prog_4_method_1_code
def y_An_init : MethodName := ⟨"DoorServer$Answers", "<init>", "()V"⟩
abbrev b_An_init : ByteArray := prog_2_method_1_code
def y_Ke_init : MethodName := ⟨"DoorServer$Kept", "<init>", "()V"⟩
abbrev b_Ke_init : ByteArray := prog_5_method_1_code
def y_Ts_init : MethodName := ⟨"DoorServer$Trials", "<init>", "()V"⟩
abbrev b_Ts_init : ByteArray := prog_12_method_1_code
def y_Tl_init : MethodName := ⟨"DoorServer$Trial", "<init>", "()V"⟩
abbrev b_Tl_init : ByteArray := prog_11_method_1_code
def y_Ss_init : MethodName := ⟨"DoorServer$Sessions", "<init>", "()V"⟩
abbrev b_Ss_init : ByteArray := prog_10_method_1_code
def y_Se_init : MethodName := ⟨"DoorServer$Session", "<init>", "()V"⟩
abbrev b_Se_init : ByteArray := prog_9_method_1_code
def y_Rq_init : MethodName := ⟨"DoorServer$Request", "<init>", "(LDoorServer$Packet;)V"⟩
abbrev b_Rq_init : ByteArray := prog_7_method_1_code
def y_DS_size : MethodName := ⟨"DoorServer", "size", "()I"⟩
abbrev b_DS_size : ByteArray := prog_1_method_15_code
def y_Lw_secret : MethodName := ⟨"DoorServerLaw", "secret", "(LDoorServer;IJI)I"⟩
abbrev b_Lw_secret : ByteArray := method_3_code
def y_DS_secret : MethodName := ⟨"DoorServer", "secret", "(IJI)V"⟩
abbrev b_DS_secret : ByteArray := prog_1_method_2_code
def y_DS_requireStation : MethodName := ⟨"DoorServer", "requireStation", "(I)V"⟩
abbrev b_DS_requireStation : ByteArray := prog_1_method_22_code
def y_DS_requireWithin : MethodName := ⟨"DoorServer", "requireWithin", "(III)V"⟩
abbrev b_DS_requireWithin : ByteArray := prog_1_method_20_code
def y_Re_init : MethodName := ⟨"java/lang/RuntimeException", "<init>", "()V"⟩
abbrev b_Re_init : ByteArray := prog_19_method_1_code
def y_Re_init2 : MethodName := ⟨"java/lang/RuntimeException", "<init>", "(Ljava/lang/String;)V"⟩
def y_Ex_init : MethodName := ⟨"java/lang/Exception", "<init>", "()V"⟩
abbrev b_Ex_init : ByteArray := prog_15_method_1_code
def y_Ex_init2 : MethodName := ⟨"java/lang/Exception", "<init>", "(Ljava/lang/String;)V"⟩
def y_Th_init : MethodName := ⟨"java/lang/Throwable", "<init>", "()V"⟩
abbrev b_Th_init : ByteArray := prog_21_method_1_code
def y_Th_init2 : MethodName := ⟨"java/lang/Throwable", "<init>", "(Ljava/lang/String;)V"⟩
def y_Th_fillInStackTrace : MethodName := ⟨"java/lang/Throwable", "fillInStackTrace", "(I)Ljava/lang/Throwable;"⟩
def y_Th_fillInStackTrace2 : MethodName := ⟨"java/lang/Throwable", "fillInStackTrace", "()Ljava/lang/Throwable;"⟩
def y_Ia_init : MethodName := ⟨"java/lang/IllegalArgumentException", "<init>", "()V"⟩
abbrev b_Ia_init : ByteArray := prog_16_method_1_code
def y_By_become : MethodName := ⟨"DoorServer$Bytes", "become", "(JI)V"⟩
abbrev b_By_become : ByteArray := prog_3_method_7_code
def y_By_appendPattern : MethodName := ⟨"DoorServer$Bytes", "appendPattern", "(JI)V"⟩
abbrev b_By_appendPattern : ByteArray := prog_3_method_5_code
def y_Lw_user : MethodName := ⟨"DoorServerLaw", "user", "(LDoorServer;IJI[J)I"⟩
abbrev b_Lw_user : ByteArray := method_4_code
def y_DS_user : MethodName := ⟨"DoorServer", "user", "(IJI)Z"⟩
abbrev b_DS_user : ByteArray := prog_1_method_3_code
def y_DS_requireUser : MethodName := ⟨"DoorServer", "requireUser", "(I)V"⟩
abbrev b_DS_requireUser : ByteArray := prog_1_method_23_code
def y_Sv_isTold : MethodName := ⟨"DoorServer$Server", "isTold", "(I)Z"⟩
abbrev b_Sv_isTold : ByteArray := prog_8_method_2_code
def y_Lw_draft : MethodName := ⟨"DoorServerLaw", "draft", "(LDoorServer;IIJ)I"⟩
abbrev b_Lw_draft : ByteArray := method_5_code
def y_DS_draft : MethodName := ⟨"DoorServer", "draft", "(IIJ)V"⟩
abbrev b_DS_draft : ByteArray := prog_1_method_4_code
def y_DS_requireByte : MethodName := ⟨"DoorServer", "requireByte", "(I)V"⟩
abbrev b_DS_requireByte : ByteArray := prog_1_method_21_code
def y_Lw_put : MethodName := ⟨"DoorServerLaw", "put", "(LDoorServer;III[J)I"⟩
abbrev b_Lw_put : ByteArray := method_6_code
def y_DS_put : MethodName := ⟨"DoorServer", "put", "(III)I"⟩
abbrev b_DS_put : ByteArray := prog_1_method_5_code
def y_DS_requireRoom : MethodName := ⟨"DoorServer", "requireRoom", "(I)V"⟩
abbrev b_DS_requireRoom : ByteArray := prog_1_method_24_code
def y_Is_init : MethodName := ⟨"java/lang/IllegalStateException", "<init>", "()V"⟩
abbrev b_Is_init : ByteArray := prog_17_method_1_code
def y_Pk_open : MethodName := ⟨"DoorServer$Packet", "open", "(II)V"⟩
abbrev b_Pk_open : ByteArray := prog_6_method_5_code
def y_DS_closedDraft : MethodName := ⟨"DoorServer", "closedDraft", "()I"⟩
abbrev b_DS_closedDraft : ByteArray := prog_1_method_26_code
def y_Pk_tellLength : MethodName := ⟨"DoorServer$Packet", "tellLength", "()V"⟩
abbrev b_Pk_tellLength : ByteArray := prog_6_method_7_code
def y_Lw_number : MethodName := ⟨"DoorServerLaw", "number", "(LDoorServer;II[J)I"⟩
abbrev b_Lw_number : ByteArray := method_7_code
def y_DS_number : MethodName := ⟨"DoorServer", "number", "(II)I"⟩
abbrev b_DS_number : ByteArray := prog_1_method_6_code
def y_Lw_name : MethodName := ⟨"DoorServerLaw", "name", "(LDoorServer;I[J)I"⟩
abbrev b_Lw_name : ByteArray := method_8_code
def y_DS_name : MethodName := ⟨"DoorServer", "name", "(I)I"⟩
abbrev b_DS_name : ByteArray := prog_1_method_7_code
def y_Lw_password : MethodName := ⟨"DoorServerLaw", "password", "(LDoorServer;IJI[J)I"⟩
abbrev b_Lw_password : ByteArray := method_9_code
def y_DS_password : MethodName := ⟨"DoorServer", "password", "(IJI)I"⟩
abbrev b_DS_password : ByteArray := prog_1_method_8_code
def y_Pk_appendPattern : MethodName := ⟨"DoorServer$Packet", "appendPattern", "(JI)V"⟩
def y_Dg_cover : MethodName := ⟨"DoorServer$Digests", "cover", "(LDoorServer$Bytes;LDoorServer$Bytes;II)V"⟩
abbrev b_Dg_cover : ByteArray := prog_4_method_6_code
def y_Dg_ofMask : MethodName := ⟨"DoorServer$Digests", "ofMask", "(LDoorServer$Bytes;LDoorServer$Bytes;II)[I"⟩
abbrev b_Dg_ofMask : ByteArray := prog_4_method_7_code
def y_By_becomeRow : MethodName := ⟨"DoorServer$Bytes", "becomeRow", "([III)V"⟩
abbrev b_By_becomeRow : ByteArray := prog_3_method_8_code
def y_By_appendRow : MethodName := ⟨"DoorServer$Bytes", "appendRow", "([III)V"⟩
abbrev b_By_appendRow : ByteArray := prog_3_method_6_code
def y_Sy_arraycopy : MethodName := ⟨"java/lang/System", "arraycopy", "(Ljava/lang/Object;ILjava/lang/Object;II)V"⟩
def y_Dg_digestText : MethodName := ⟨"DoorServer$Digests", "digestText", "()[I"⟩
abbrev b_Dg_digestText : ByteArray := prog_4_method_10_code
def y_Ar_fill : MethodName := ⟨"java/util/Arrays", "fill", "([IIII)V"⟩
abbrev b_Ar_fill : ByteArray := prog_22_method_104_code
def y_Ar_rangeCheck : MethodName := ⟨"java/util/Arrays", "rangeCheck", "(III)V"⟩
abbrev b_Ar_rangeCheck : ByteArray := prog_22_method_30_code
def y_Dg_mixBlock : MethodName := ⟨"DoorServer$Digests", "mixBlock", "(I)V"⟩
abbrev b_Dg_mixBlock : ByteArray := prog_4_method_11_code
def y_Lw_hello : MethodName := ⟨"DoorServerLaw", "hello", "(LDoorServer;I[J)I"⟩
abbrev b_Lw_hello : ByteArray := method_10_code
def y_DS_hello : MethodName := ⟨"DoorServer", "hello", "(I)I"⟩
abbrev b_DS_hello : ByteArray := prog_1_method_9_code
def y_Pk_openTalk : MethodName := ⟨"DoorServer$Packet", "openTalk", "(III)V"⟩
abbrev b_Pk_openTalk : ByteArray := prog_6_method_6_code
def y_Lw_reply : MethodName := ⟨"DoorServerLaw", "reply", "(LDoorServer;JI[J)I"⟩
abbrev b_Lw_reply : ByteArray := method_11_code
def y_DS_reply : MethodName := ⟨"DoorServer", "reply", "(JI)I"⟩
abbrev b_DS_reply : ByteArray := prog_1_method_10_code
def y_Pk_appendRow : MethodName := ⟨"DoorServer$Packet", "appendRow", "([III)V"⟩
def y_Dg_ofReply : MethodName := ⟨"DoorServer$Digests", "ofReply", "(ILDoorServer$Bytes;[II)[I"⟩
abbrev b_Dg_ofReply : ByteArray := prog_4_method_5_code
def y_Lw_prove : MethodName := ⟨"DoorServerLaw", "prove", "(LDoorServer;I[J)I"⟩
abbrev b_Lw_prove : ByteArray := method_12_code
def y_DS_prove : MethodName := ⟨"DoorServer", "prove", "(I)I"⟩
abbrev b_DS_prove : ByteArray := prog_1_method_11_code
def y_Pk_findValue : MethodName := ⟨"DoorServer$Packet", "findValue", "(II)I"⟩
abbrev b_Pk_findValue : ByteArray := prog_6_method_8_code
def y_DS_firstProof : MethodName := ⟨"DoorServer", "firstProof", "()I"⟩
abbrev b_DS_firstProof : ByteArray := prog_1_method_25_code
def y_Dg_ofProof : MethodName := ⟨"DoorServer$Digests", "ofProof", "(LDoorServer$Bytes;LDoorServer$Bytes;I)[I"⟩
abbrev b_Dg_ofProof : ByteArray := prog_4_method_2_code
def y_Dg_startWithKey : MethodName := ⟨"DoorServer$Digests", "startWithKey", "(LDoorServer$Bytes;I)V"⟩
abbrev b_Dg_startWithKey : ByteArray := prog_4_method_8_code
def y_Dg_appendBlanked : MethodName := ⟨"DoorServer$Digests", "appendBlanked", "(LDoorServer$Bytes;I)V"⟩
abbrev b_Dg_appendBlanked : ByteArray := prog_4_method_9_code
def y_Pk_write : MethodName := ⟨"DoorServer$Packet", "write", "(I[I)V"⟩
abbrev b_Pk_write : ByteArray := prog_6_method_4_code
def y_Lw_seal : MethodName := ⟨"DoorServerLaw", "seal", "(LDoorServer;I)I"⟩
abbrev b_Lw_seal : ByteArray := method_13_code
def y_DS_seal : MethodName := ⟨"DoorServer", "seal", "(I)V"⟩
abbrev b_DS_seal : ByteArray := prog_1_method_12_code
def y_Dg_ofSeal : MethodName := ⟨"DoorServer$Digests", "ofSeal", "(LDoorServer$Bytes;LDoorServer$Bytes;)[I"⟩
abbrev b_Dg_ofSeal : ByteArray := prog_4_method_3_code
def y_Lw_spoil : MethodName := ⟨"DoorServerLaw", "spoil", "(LDoorServer;II[J)I"⟩
abbrev b_Lw_spoil : ByteArray := method_14_code
def y_DS_spoil : MethodName := ⟨"DoorServer", "spoil", "(II)I"⟩
abbrev b_DS_spoil : ByteArray := prog_1_method_13_code
def y_Lw_send : MethodName := ⟨"DoorServerLaw", "send", "(LDoorServer;I[J)I"⟩
abbrev b_Lw_send : ByteArray := method_15_code
def y_DS_send : MethodName := ⟨"DoorServer", "send", "(I)I"⟩
abbrev b_DS_send : ByteArray := prog_1_method_14_code
def y_Sv_take : MethodName := ⟨"DoorServer$Server", "take", "(I)I"⟩
abbrev b_Sv_take : ByteArray := prog_8_method_3_code
def y_Rq_isWhole : MethodName := ⟨"DoorServer$Request", "isWhole", "()Z"⟩
abbrev b_Rq_isWhole : ByteArray := prog_7_method_2_code
def y_Ar_fill2 : MethodName := ⟨"java/util/Arrays", "fill", "([II)V"⟩
abbrev b_Ar_fill2 : ByteArray := prog_22_method_103_code
def y_Rq_takes : MethodName := ⟨"DoorServer$Request", "takes", "(III)Z"⟩
abbrev b_Rq_takes : ByteArray := prog_7_method_3_code
def y_Rq_isKnown : MethodName := ⟨"DoorServer$Request", "isKnown", "(I)Z"⟩
abbrev b_Rq_isKnown : ByteArray := prog_7_method_4_code
def y_Rq_fits : MethodName := ⟨"DoorServer$Request", "fits", "(II)Z"⟩
abbrev b_Rq_fits : ByteArray := prog_7_method_5_code
def y_Rq_code : MethodName := ⟨"DoorServer$Request", "code", "()I"⟩
abbrev b_Rq_code : ByteArray := prog_7_method_11_code
def y_Sv_isProved : MethodName := ⟨"DoorServer$Server", "isProved", "(I)Z"⟩
abbrev b_Sv_isProved : ByteArray := prog_8_method_4_code
def y_Rq_has : MethodName := ⟨"DoorServer$Request", "has", "(I)Z"⟩
abbrev b_Rq_has : ByteArray := prog_7_method_6_code
def y_Rq_startOf : MethodName := ⟨"DoorServer$Request", "startOf", "(I)I"⟩
abbrev b_Rq_startOf : ByteArray := prog_7_method_7_code
def y_By_standsAt : MethodName := ⟨"DoorServer$Bytes", "standsAt", "([ILDoorServer$Bytes;II)Z"⟩
abbrev b_By_standsAt : ByteArray := prog_3_method_12_code
def y_Sv_isSealed : MethodName := ⟨"DoorServer$Server", "isSealed", "(I)Z"⟩
abbrev b_Sv_isSealed : ByteArray := prog_8_method_5_code
def y_Sv_answersAlike : MethodName := ⟨"DoorServer$Server", "answersAlike", "(I)Z"⟩
abbrev b_Sv_answersAlike : ByteArray := prog_8_method_6_code
def y_Rq_identifier : MethodName := ⟨"DoorServer$Request", "identifier", "()I"⟩
abbrev b_Rq_identifier : ByteArray := prog_7_method_12_code
def y_An_find : MethodName := ⟨"DoorServer$Answers", "find", "(II)LDoorServer$Kept;"⟩
abbrev b_An_find : ByteArray := prog_2_method_2_code
def y_Pk_becomeRow : MethodName := ⟨"DoorServer$Packet", "becomeRow", "([III)V"⟩
def y_Sv_tellsSession : MethodName := ⟨"DoorServer$Server", "tellsSession", "()Z"⟩
abbrev b_Sv_tellsSession : ByteArray := prog_8_method_7_code
def y_Rq_numberOf : MethodName := ⟨"DoorServer$Request", "numberOf", "(I)J"⟩
abbrev b_Rq_numberOf : ByteArray := prog_7_method_10_code
def y_Rq_lengthOf : MethodName := ⟨"DoorServer$Request", "lengthOf", "(I)I"⟩
abbrev b_Rq_lengthOf : ByteArray := prog_7_method_8_code
def y_Rq_byteOf : MethodName := ⟨"DoorServer$Request", "byteOf", "(II)I"⟩
abbrev b_Rq_byteOf : ByteArray := prog_7_method_9_code
def y_Ss_write : MethodName := ⟨"DoorServer$Sessions", "write", "(ILDoorServer$Request;I)V"⟩
abbrev b_Ss_write : ByteArray := prog_10_method_2_code
def y_Ss_placeOf : MethodName := ⟨"DoorServer$Sessions", "placeOf", "(ILDoorServer$Request;)I"⟩
abbrev b_Ss_placeOf : ByteArray := prog_10_method_3_code
def y_Se_compareWith : MethodName := ⟨"DoorServer$Session", "compareWith", "(ILDoorServer$Request;)I"⟩
abbrev b_Se_compareWith : ByteArray := prog_9_method_2_code
def y_Ss_makeRoom : MethodName := ⟨"DoorServer$Sessions", "makeRoom", "(I)V"⟩
abbrev b_Ss_makeRoom : ByteArray := prog_10_method_4_code
def y_Se_come : MethodName := ⟨"DoorServer$Session", "come", "(ILDoorServer$Request;I)V"⟩
abbrev b_Se_come : ByteArray := prog_9_method_3_code
def y_Se_change : MethodName := ⟨"DoorServer$Session", "change", "(LDoorServer$Request;IZ)V"⟩
abbrev b_Se_change : ByteArray := prog_9_method_4_code
def y_Ma_max : MethodName := ⟨"java/lang/Math", "max", "(JJ)J"⟩
abbrev b_Ma_max : ByteArray := prog_18_method_66_code
def y_Sv_beginAnswer : MethodName := ⟨"DoorServer$Server", "beginAnswer", "(I)V"⟩
abbrev b_Sv_beginAnswer : ByteArray := prog_8_method_12_code
def y_Sv_judge : MethodName := ⟨"DoorServer$Server", "judge", "(I)V"⟩
abbrev b_Sv_judge : ByteArray := prog_8_method_8_code
def y_Sv_toldUser : MethodName := ⟨"DoorServer$Server", "toldUser", "()I"⟩
abbrev b_Sv_toldUser : ByteArray := prog_8_method_9_code
def y_Rq_namedUser : MethodName := ⟨"DoorServer$Request", "namedUser", "()I"⟩
abbrev b_Rq_namedUser : ByteArray := prog_7_method_13_code
def y_Rq_talkKind : MethodName := ⟨"DoorServer$Request", "talkKind", "()I"⟩
abbrev b_Rq_talkKind : ByteArray := prog_7_method_14_code
def y_Rq_talkNumber : MethodName := ⟨"DoorServer$Request", "talkNumber", "()I"⟩
abbrev b_Rq_talkNumber : ByteArray := prog_7_method_15_code
def y_Ts_give : MethodName := ⟨"DoorServer$Trials", "give", "(IIII)LDoorServer$Trial;"⟩
abbrev b_Ts_give : ByteArray := prog_12_method_2_code
def y_Ts_freePlace : MethodName := ⟨"DoorServer$Trials", "freePlace", "()LDoorServer$Trial;"⟩
abbrev b_Ts_freePlace : ByteArray := prog_12_method_4_code
def y_Sv_appendChallenge : MethodName := ⟨"DoorServer$Server", "appendChallenge", "(LDoorServer$Trial;)V"⟩
abbrev b_Sv_appendChallenge : ByteArray := prog_8_method_13_code
def y_Sv_passwordHolds : MethodName := ⟨"DoorServer$Server", "passwordHolds", "(II)Z"⟩
abbrev b_Sv_passwordHolds : ByteArray := prog_8_method_10_code
def y_By_appendMasked : MethodName := ⟨"DoorServer$Bytes", "appendMasked", "([II[I)V"⟩
abbrev b_By_appendMasked : ByteArray := prog_3_method_9_code
def y_By_dropZerosBehind : MethodName := ⟨"DoorServer$Bytes", "dropZerosBehind", "()V"⟩
abbrev b_By_dropZerosBehind : ByteArray := prog_3_method_10_code
def y_By_isAlike : MethodName := ⟨"DoorServer$Bytes", "isAlike", "(LDoorServer$Bytes;)Z"⟩
abbrev b_By_isAlike : ByteArray := prog_3_method_11_code
def y_Sv_replyHolds : MethodName := ⟨"DoorServer$Server", "replyHolds", "(II)Z"⟩
abbrev b_Sv_replyHolds : ByteArray := prog_8_method_11_code
def y_Ts_take : MethodName := ⟨"DoorServer$Trials", "take", "(JII)LDoorServer$Trial;"⟩
abbrev b_Ts_take : ByteArray := prog_12_method_3_code
def y_Sv_appendProof : MethodName := ⟨"DoorServer$Server", "appendProof", "(I)V"⟩
abbrev b_Sv_appendProof : ByteArray := prog_8_method_14_code
def y_Sv_finishAnswer : MethodName := ⟨"DoorServer$Server", "finishAnswer", "(I)V"⟩
abbrev b_Sv_finishAnswer : ByteArray := prog_8_method_15_code
def y_Dg_ofAnswer : MethodName := ⟨"DoorServer$Digests", "ofAnswer", "(LDoorServer$Bytes;LDoorServer$Bytes;)[I"⟩
abbrev b_Dg_ofAnswer : ByteArray := prog_4_method_4_code
def y_An_keep : MethodName := ⟨"DoorServer$Answers", "keep", "(ILDoorServer$Request;ILDoorServer$Packet;)V"⟩
abbrev b_An_keep : ByteArray := prog_2_method_3_code
def y_An_freePlace : MethodName := ⟨"DoorServer$Answers", "freePlace", "()LDoorServer$Kept;"⟩
abbrev b_An_freePlace : ByteArray := prog_2_method_4_code
def y_Lw_byteAt : MethodName := ⟨"DoorServerLaw", "byteAt", "(LDoorServer;I[J)I"⟩
abbrev b_Lw_byteAt : ByteArray := method_16_code
def y_DS_byteAt : MethodName := ⟨"DoorServer", "byteAt", "(I)I"⟩
abbrev b_DS_byteAt : ByteArray := prog_1_method_16_code
def y_Lw_ticks : MethodName := ⟨"DoorServerLaw", "ticks", "(LDoorServer;I[J)I"⟩
abbrev b_Lw_ticks : ByteArray := method_17_code
def y_DS_ticks : MethodName := ⟨"DoorServer", "ticks", "(I)I"⟩
abbrev b_DS_ticks : ByteArray := prog_1_method_17_code
def y_Lw_count : MethodName := ⟨"DoorServerLaw", "count", "(LDoorServer;I[J)I"⟩
abbrev b_Lw_count : ByteArray := method_18_code
def y_DS_count : MethodName := ⟨"DoorServer", "count", "(I)I"⟩
abbrev b_DS_count : ByteArray := prog_1_method_18_code
def y_Lw_record : MethodName := ⟨"DoorServerLaw", "record", "(LDoorServer;II[J)I"⟩
abbrev b_Lw_record : ByteArray := method_19_code
def y_DS_record : MethodName := ⟨"DoorServer", "record", "(II)J"⟩
abbrev b_DS_record : ByteArray := prog_1_method_19_code
def y_Md_init : MethodName := ⟨"DoorServerModel", "<init>", "()V"⟩
abbrev b_Md_init : ByteArray := prog_14_method_1_code
def y_Md_begin : MethodName := ⟨"DoorServerModel", "begin", "(IIJ)V"⟩
abbrev b_Md_begin : ByteArray := prog_14_method_17_code
def y_Md_add : MethodName := ⟨"DoorServerModel", "add", "(I)V"⟩
abbrev b_Md_add : ByteArray := prog_14_method_16_code
def y_Md_thrown : MethodName := ⟨"DoorServerModel", "thrown", "()I"⟩
abbrev b_Md_thrown : ByteArray := prog_14_method_2_code
def y_Md_secret : MethodName := ⟨"DoorServerModel", "secret", "(IJI)V"⟩
abbrev b_Md_secret : ByteArray := prog_14_method_14_code
def y_Md_goes : MethodName := ⟨"DoorServerModel", "goes", "(Z)Z"⟩
abbrev b_Md_goes : ByteArray := prog_14_method_3_code
def y_Md_letter : MethodName := ⟨"DoorServerModel", "letter", "(JI)I"⟩
abbrev b_Md_letter : ByteArray := prog_14_method_13_code
def y_Md_user : MethodName := ⟨"DoorServerModel", "user", "(IJI)Z"⟩
abbrev b_Md_user : ByteArray := prog_14_method_15_code
def y_Md_draft : MethodName := ⟨"DoorServerModel", "draft", "(IIJ)V"⟩
abbrev b_Md_draft : ByteArray := prog_14_method_18_code
def y_Md_isByte : MethodName := ⟨"DoorServerModel", "isByte", "(I)Z"⟩
abbrev b_Md_isByte : ByteArray := prog_14_method_4_code
def y_Md_put : MethodName := ⟨"DoorServerModel", "put", "(III)I"⟩
abbrev b_Md_put : ByteArray := prog_14_method_22_code
def y_Md_opens : MethodName := ⟨"DoorServerModel", "opens", "(II)Z"⟩
abbrev b_Md_opens : ByteArray := prog_14_method_20_code
def y_Md_closes : MethodName := ⟨"DoorServerModel", "closes", "()I"⟩
abbrev b_Md_closes : ByteArray := prog_14_method_21_code
def y_Md_length : MethodName := ⟨"DoorServerModel", "length", "()V"⟩
abbrev b_Md_length : ByteArray := prog_14_method_19_code
def y_Md_number : MethodName := ⟨"DoorServerModel", "number", "(II)I"⟩
abbrev b_Md_number : ByteArray := prog_14_method_23_code
def y_Md_name : MethodName := ⟨"DoorServerModel", "name", "(I)I"⟩
abbrev b_Md_name : ByteArray := prog_14_method_24_code
def y_Md_password : MethodName := ⟨"DoorServerModel", "password", "(IJI)I"⟩
abbrev b_Md_password : ByteArray := prog_14_method_26_code
def y_Md_cover : MethodName := ⟨"DoorServerModel", "cover", "(II)V"⟩
abbrev b_Md_cover : ByteArray := prog_14_method_25_code
def y_Md_saySecret : MethodName := ⟨"DoorServerModel", "saySecret", "(I)V"⟩
abbrev b_Md_saySecret : ByteArray := prog_14_method_6_code
def y_Md_say : MethodName := ⟨"DoorServerModel", "say", "(I)V"⟩
abbrev b_Md_say : ByteArray := prog_14_method_5_code
def y_Md_md5 : MethodName := ⟨"DoorServerModel", "md5", "()V"⟩
abbrev b_Md_md5 : ByteArray := prog_14_method_8_code
def y_Md_mixed : MethodName := ⟨"DoorServerModel", "mixed", "(IJJJ)J"⟩
abbrev b_Md_mixed : ByteArray := prog_14_method_9_code
def y_Md_wordAt : MethodName := ⟨"DoorServerModel", "wordAt", "(II)J"⟩
abbrev b_Md_wordAt : ByteArray := prog_14_method_10_code
def y_Md_turn : MethodName := ⟨"DoorServerModel", "turn", "(I)I"⟩
abbrev b_Md_turn : ByteArray := prog_14_method_11_code
def y_Md_turned : MethodName := ⟨"DoorServerModel", "turned", "(JI)J"⟩
abbrev b_Md_turned : ByteArray := prog_14_method_7_code
def y_Md_hello : MethodName := ⟨"DoorServerModel", "hello", "(I)I"⟩
abbrev b_Md_hello : ByteArray := prog_14_method_27_code
def y_Md_reply : MethodName := ⟨"DoorServerModel", "reply", "(JI)I"⟩
abbrev b_Md_reply : ByteArray := prog_14_method_28_code
def y_Md_prove : MethodName := ⟨"DoorServerModel", "prove", "(I)I"⟩
abbrev b_Md_prove : ByteArray := prog_14_method_32_code
def y_Md_proofPlace : MethodName := ⟨"DoorServerModel", "proofPlace", "()I"⟩
abbrev b_Md_proofPlace : ByteArray := prog_14_method_29_code
def y_Md_proof : MethodName := ⟨"DoorServerModel", "proof", "(II)V"⟩
abbrev b_Md_proof : ByteArray := prog_14_method_30_code
def y_Md_keyed : MethodName := ⟨"DoorServerModel", "keyed", "(I)V"⟩
abbrev b_Md_keyed : ByteArray := prog_14_method_12_code
def y_Md_seal : MethodName := ⟨"DoorServerModel", "seal", "(I)V"⟩
abbrev b_Md_seal : ByteArray := prog_14_method_33_code
def y_Md_authenticator : MethodName := ⟨"DoorServerModel", "authenticator", "(I)V"⟩
abbrev b_Md_authenticator : ByteArray := prog_14_method_31_code
def y_Md_spoil : MethodName := ⟨"DoorServerModel", "spoil", "(II)I"⟩
abbrev b_Md_spoil : ByteArray := prog_14_method_34_code
def y_Md_send : MethodName := ⟨"DoorServerModel", "send", "(I)I"⟩
abbrev b_Md_send : ByteArray := prog_14_method_45_code
def y_Md_isWhole : MethodName := ⟨"DoorServerModel", "isWhole", "()Z"⟩
abbrev b_Md_isWhole : ByteArray := prog_14_method_38_code
def y_Md_isKnown : MethodName := ⟨"DoorServerModel", "isKnown", "(I)Z"⟩
abbrev b_Md_isKnown : ByteArray := prog_14_method_36_code
def y_Md_find : MethodName := ⟨"DoorServerModel", "find", "(I)I"⟩
abbrev b_Md_find : ByteArray := prog_14_method_37_code
def y_Md_isRightSize : MethodName := ⟨"DoorServerModel", "isRightSize", "(II)Z"⟩
abbrev b_Md_isRightSize : ByteArray := prog_14_method_35_code
def y_Md_findEnd : MethodName := ⟨"DoorServerModel", "findEnd", "()Z"⟩
abbrev b_Md_findEnd : ByteArray := prog_14_method_39_code
def y_Md_has : MethodName := ⟨"DoorServerModel", "has", "(I)Z"⟩
abbrev b_Md_has : ByteArray := prog_14_method_40_code
def y_Md_valueAt : MethodName := ⟨"DoorServerModel", "valueAt", "(I)I"⟩
abbrev b_Md_valueAt : ByteArray := prog_14_method_41_code
def y_Md_isDigestAt : MethodName := ⟨"DoorServerModel", "isDigestAt", "(I)Z"⟩
abbrev b_Md_isDigestAt : ByteArray := prog_14_method_44_code
def y_Md_keptAnswer : MethodName := ⟨"DoorServerModel", "keptAnswer", "(I)I"⟩
abbrev b_Md_keptAnswer : ByteArray := prog_14_method_46_code
def y_Md_enter : MethodName := ⟨"DoorServerModel", "enter", "(I)I"⟩
abbrev b_Md_enter : ByteArray := prog_14_method_54_code
def y_Md_userOf : MethodName := ⟨"DoorServerModel", "userOf", "()I"⟩
abbrev b_Md_userOf : ByteArray := prog_14_method_53_code
def y_Md_sizeOf : MethodName := ⟨"DoorServerModel", "sizeOf", "(I)I"⟩
abbrev b_Md_sizeOf : ByteArray := prog_14_method_42_code
def y_Md_open : MethodName := ⟨"DoorServerModel", "open", "(I)V"⟩
abbrev b_Md_open : ByteArray := prog_14_method_48_code
def y_Md_tell : MethodName := ⟨"DoorServerModel", "tell", "(I)V"⟩
abbrev b_Md_tell : ByteArray := prog_14_method_47_code
def y_Md_isPassword : MethodName := ⟨"DoorServerModel", "isPassword", "(II)Z"⟩
abbrev b_Md_isPassword : ByteArray := prog_14_method_55_code
def y_Md_talks : MethodName := ⟨"DoorServerModel", "talks", "(II)V"⟩
abbrev b_Md_talks : ByteArray := prog_14_method_56_code
def y_Md_challenge : MethodName := ⟨"DoorServerModel", "challenge", "(III)V"⟩
abbrev b_Md_challenge : ByteArray := prog_14_method_58_code
def y_Md_dropTrial : MethodName := ⟨"DoorServerModel", "dropTrial", "(I)V"⟩
abbrev b_Md_dropTrial : ByteArray := prog_14_method_57_code
def y_Md_isMet : MethodName := ⟨"DoorServerModel", "isMet", "(IIII)Z"⟩
abbrev b_Md_isMet : ByteArray := prog_14_method_59_code
def y_Md_close : MethodName := ⟨"DoorServerModel", "close", "(I)I"⟩
abbrev b_Md_close : ByteArray := prog_14_method_52_code
def y_Md_keep : MethodName := ⟨"DoorServerModel", "keep", "(I)V"⟩
abbrev b_Md_keep : ByteArray := prog_14_method_51_code
def y_Md_dropAnswer : MethodName := ⟨"DoorServerModel", "dropAnswer", "(I)V"⟩
abbrev b_Md_dropAnswer : ByteArray := prog_14_method_50_code
def y_Md_copyAnswer : MethodName := ⟨"DoorServerModel", "copyAnswer", "(II)V"⟩
abbrev b_Md_copyAnswer : ByteArray := prog_14_method_49_code
def y_Md_write : MethodName := ⟨"DoorServerModel", "write", "(I)I"⟩
abbrev b_Md_write : ByteArray := prog_14_method_61_code
def y_Md_fourOf : MethodName := ⟨"DoorServerModel", "fourOf", "(I)J"⟩
abbrev b_Md_fourOf : ByteArray := prog_14_method_43_code
def y_Md_recordOf : MethodName := ⟨"DoorServerModel", "recordOf", "(I)I"⟩
abbrev b_Md_recordOf : ByteArray := prog_14_method_60_code
def y_Md_size : MethodName := ⟨"DoorServerModel", "size", "()I"⟩
abbrev b_Md_size : ByteArray := prog_14_method_62_code
def y_Md_byteAt : MethodName := ⟨"DoorServerModel", "byteAt", "(I)I"⟩
abbrev b_Md_byteAt : ByteArray := prog_14_method_63_code
def y_Md_ticks : MethodName := ⟨"DoorServerModel", "ticks", "(I)I"⟩
abbrev b_Md_ticks : ByteArray := prog_14_method_64_code
def y_Md_count : MethodName := ⟨"DoorServerModel", "count", "(I)I"⟩
abbrev b_Md_count : ByteArray := prog_14_method_65_code
def y_Md_record : MethodName := ⟨"DoorServerModel", "record", "(II)J"⟩
abbrev b_Md_record : ByteArray := prog_14_method_67_code
def y_Md_isBefore : MethodName := ⟨"DoorServerModel", "isBefore", "(II)Z"⟩
abbrev b_Md_isBefore : ByteArray := prog_14_method_66_code
