section
/-- a private method of a class that the tables say can be made, by its rows of tables_1 -/
def lw_okq (q : MethodName × Nat) : Prop := (q.1.cls ≠ "java/lang/invoke/MethodHandle" ∧ q.1.cls ≠ "java/lang/invoke/VarHandle") ∧ Cond.instantiable q.1.cls q.2 ∈ tables_1 ∧ Cond.privateMethod q.1 ∈ tables_1 ∧ Cond.instanceMethod q.1 ∈ tables_1
theorem lw_p0 : lw_okq (⟨"EpochStore", "epochOfMajority", "()I"⟩, 6) := ⟨⟨by decide +kernel, by decide +kernel⟩, List.mem_of_getElem? (i := 16) (by decide +kernel), List.mem_of_getElem? (i := 315) (by decide +kernel), List.mem_of_getElem? (i := 316) (by decide +kernel)⟩
theorem lw_p1 : lw_okq (⟨"EpochStore", "isOpen", "(I)Z"⟩, 6) := ⟨⟨by decide +kernel, by decide +kernel⟩, List.mem_of_getElem? (i := 16) (by decide +kernel), List.mem_of_getElem? (i := 349) (by decide +kernel), List.mem_of_getElem? (i := 350) (by decide +kernel)⟩
theorem lw_p2 : lw_okq (⟨"EpochStore", "valueFor", "(LEpochStore$Client;I)J"⟩, 6) := ⟨⟨by decide +kernel, by decide +kernel⟩, List.mem_of_getElem? (i := 16) (by decide +kernel), List.mem_of_getElem? (i := 357) (by decide +kernel), List.mem_of_getElem? (i := 358) (by decide +kernel)⟩
theorem lw_p3 : lw_okq (⟨"EpochStore$Log", "takeRecord", "(LEpochStore$Entry;)Z"⟩, 7) := ⟨⟨by decide +kernel, by decide +kernel⟩, List.mem_of_getElem? (i := 126) (by decide +kernel), List.mem_of_getElem? (i := 449) (by decide +kernel), List.mem_of_getElem? (i := 450) (by decide +kernel)⟩
theorem lw_p4 : lw_okq (⟨"EpochStore", "isMaster", "(I)Z"⟩, 6) := ⟨⟨by decide +kernel, by decide +kernel⟩, List.mem_of_getElem? (i := 16) (by decide +kernel), List.mem_of_getElem? (i := 457) (by decide +kernel), List.mem_of_getElem? (i := 458) (by decide +kernel)⟩
theorem lw_p5 : lw_okq (⟨"EpochStore$Master", "openQuestion", "(LEpochStore$Message;LEpochStore$Line;)V"⟩, 12) := ⟨⟨by decide +kernel, by decide +kernel⟩, List.mem_of_getElem? (i := 244) (by decide +kernel), List.mem_of_getElem? (i := 465) (by decide +kernel), List.mem_of_getElem? (i := 466) (by decide +kernel)⟩
theorem lw_p6 : lw_okq (⟨"EpochStore$Master", "takeConfirmation", "(LEpochStore$Message;LEpochStore$Line;)V"⟩, 12) := ⟨⟨by decide +kernel, by decide +kernel⟩, List.mem_of_getElem? (i := 244) (by decide +kernel), List.mem_of_getElem? (i := 491) (by decide +kernel), List.mem_of_getElem? (i := 492) (by decide +kernel)⟩
theorem lw_p7 : lw_okq (⟨"EpochStore$Master", "placeOfQuestion", "(I)I"⟩, 12) := ⟨⟨by decide +kernel, by decide +kernel⟩, List.mem_of_getElem? (i := 244) (by decide +kernel), List.mem_of_getElem? (i := 495) (by decide +kernel), List.mem_of_getElem? (i := 496) (by decide +kernel)⟩
theorem lw_p8 : lw_okq (⟨"EpochStore$Master", "answer", "(LEpochStore$Question;LEpochStore$Line;)V"⟩, 12) := ⟨⟨by decide +kernel, by decide +kernel⟩, List.mem_of_getElem? (i := 244) (by decide +kernel), List.mem_of_getElem? (i := 499) (by decide +kernel), List.mem_of_getElem? (i := 500) (by decide +kernel)⟩
theorem lw_p9 : lw_okq (⟨"EpochStore$Master", "removeQuestion", "(I)V"⟩, 12) := ⟨⟨by decide +kernel, by decide +kernel⟩, List.mem_of_getElem? (i := 244) (by decide +kernel), List.mem_of_getElem? (i := 503) (by decide +kernel), List.mem_of_getElem? (i := 504) (by decide +kernel)⟩
theorem lw_p10 : lw_okq (⟨"EpochStore$Master", "decide", "(LEpochStore$Message;LEpochStore$Line;)V"⟩, 12) := ⟨⟨by decide +kernel, by decide +kernel⟩, List.mem_of_getElem? (i := 244) (by decide +kernel), List.mem_of_getElem? (i := 507) (by decide +kernel), List.mem_of_getElem? (i := 508) (by decide +kernel)⟩
theorem lw_p11 : lw_okq (⟨"EpochStore$Master", "sendResult", "(IIILEpochStore$Line;)LEpochStore$Message;"⟩, 12) := ⟨⟨by decide +kernel, by decide +kernel⟩, List.mem_of_getElem? (i := 244) (by decide +kernel), List.mem_of_getElem? (i := 511) (by decide +kernel), List.mem_of_getElem? (i := 512) (by decide +kernel)⟩
theorem lw_p12 : lw_okq (⟨"EpochStore$Master", "passesResolvers", "(LEpochStore$Message;)Z"⟩, 12) := ⟨⟨by decide +kernel, by decide +kernel⟩, List.mem_of_getElem? (i := 244) (by decide +kernel), List.mem_of_getElem? (i := 515) (by decide +kernel), List.mem_of_getElem? (i := 516) (by decide +kernel)⟩
theorem lw_p13 : lw_okq (⟨"EpochStore$Master", "findsConflict", "(ILEpochStore$Message;)Z"⟩, 12) := ⟨⟨by decide +kernel, by decide +kernel⟩, List.mem_of_getElem? (i := 244) (by decide +kernel), List.mem_of_getElem? (i := 519) (by decide +kernel), List.mem_of_getElem? (i := 520) (by decide +kernel)⟩
theorem lw_p14 : lw_okq (⟨"EpochStore$Master", "letPass", "(ILEpochStore$Writes;)V"⟩, 12) := ⟨⟨by decide +kernel, by decide +kernel⟩, List.mem_of_getElem? (i := 244) (by decide +kernel), List.mem_of_getElem? (i := 523) (by decide +kernel), List.mem_of_getElem? (i := 524) (by decide +kernel)⟩
theorem lw_p15 : lw_okq (⟨"EpochStore$Master", "putOnWay", "(LEpochStore$Message;LEpochStore$Line;)V"⟩, 12) := ⟨⟨by decide +kernel, by decide +kernel⟩, List.mem_of_getElem? (i := 244) (by decide +kernel), List.mem_of_getElem? (i := 528) (by decide +kernel), List.mem_of_getElem? (i := 529) (by decide +kernel)⟩
def lw_privs_1 : List (MethodName × Nat) := [(⟨"EpochStore", "epochOfMajority", "()I"⟩, 6), (⟨"EpochStore", "isOpen", "(I)Z"⟩, 6), (⟨"EpochStore", "valueFor", "(LEpochStore$Client;I)J"⟩, 6), (⟨"EpochStore$Log", "takeRecord", "(LEpochStore$Entry;)Z"⟩, 7), (⟨"EpochStore", "isMaster", "(I)Z"⟩, 6), (⟨"EpochStore$Master", "openQuestion", "(LEpochStore$Message;LEpochStore$Line;)V"⟩, 12), (⟨"EpochStore$Master", "takeConfirmation", "(LEpochStore$Message;LEpochStore$Line;)V"⟩, 12), (⟨"EpochStore$Master", "placeOfQuestion", "(I)I"⟩, 12), (⟨"EpochStore$Master", "answer", "(LEpochStore$Question;LEpochStore$Line;)V"⟩, 12), (⟨"EpochStore$Master", "removeQuestion", "(I)V"⟩, 12), (⟨"EpochStore$Master", "decide", "(LEpochStore$Message;LEpochStore$Line;)V"⟩, 12), (⟨"EpochStore$Master", "sendResult", "(IIILEpochStore$Line;)LEpochStore$Message;"⟩, 12), (⟨"EpochStore$Master", "passesResolvers", "(LEpochStore$Message;)Z"⟩, 12), (⟨"EpochStore$Master", "findsConflict", "(ILEpochStore$Message;)Z"⟩, 12), (⟨"EpochStore$Master", "letPass", "(ILEpochStore$Writes;)V"⟩, 12), (⟨"EpochStore$Master", "putOnWay", "(LEpochStore$Message;LEpochStore$Line;)V"⟩, 12)]
theorem lw_r1 : ∀ q ∈ lw_privs_1, lw_okq q := List.forall_mem_cons.mpr ⟨lw_p0, List.forall_mem_cons.mpr ⟨lw_p1, List.forall_mem_cons.mpr ⟨lw_p2, List.forall_mem_cons.mpr ⟨lw_p3, List.forall_mem_cons.mpr ⟨lw_p4, List.forall_mem_cons.mpr ⟨lw_p5, List.forall_mem_cons.mpr ⟨lw_p6, List.forall_mem_cons.mpr ⟨lw_p7, List.forall_mem_cons.mpr ⟨lw_p8, List.forall_mem_cons.mpr ⟨lw_p9, List.forall_mem_cons.mpr ⟨lw_p10, List.forall_mem_cons.mpr ⟨lw_p11, List.forall_mem_cons.mpr ⟨lw_p12, List.forall_mem_cons.mpr ⟨lw_p13, List.forall_mem_cons.mpr ⟨lw_p14, List.forall_mem_cons.mpr ⟨lw_p15, fun _ h => absurd h List.not_mem_nil⟩⟩⟩⟩⟩⟩⟩⟩⟩⟩⟩⟩⟩⟩⟩⟩
theorem lw_p16 : lw_okq (⟨"EpochStore$Master", "pushToOthers", "(LEpochStore$OnWay;LEpochStore$Line;)I"⟩, 12) := ⟨⟨by decide +kernel, by decide +kernel⟩, List.mem_of_getElem? (i := 244) (by decide +kernel), List.mem_of_getElem? (i := 574) (by decide +kernel), List.mem_of_getElem? (i := 575) (by decide +kernel)⟩
theorem lw_p17 : lw_okq (⟨"EpochStore$Master", "takeAcknowledgement", "(LEpochStore$Message;)V"⟩, 12) := ⟨⟨by decide +kernel, by decide +kernel⟩, List.mem_of_getElem? (i := 244) (by decide +kernel), List.mem_of_getElem? (i := 578) (by decide +kernel), List.mem_of_getElem? (i := 579) (by decide +kernel)⟩
theorem lw_p18 : lw_okq (⟨"EpochStore$Master", "settle", "(LEpochStore$Line;)V"⟩, 12) := ⟨⟨by decide +kernel, by decide +kernel⟩, List.mem_of_getElem? (i := 244) (by decide +kernel), List.mem_of_getElem? (i := 582) (by decide +kernel), List.mem_of_getElem? (i := 583) (by decide +kernel)⟩
theorem lw_p19 : lw_okq (⟨"EpochStore$Master", "removeOldestOnWay", "(I)V"⟩, 12) := ⟨⟨by decide +kernel, by decide +kernel⟩, List.mem_of_getElem? (i := 244) (by decide +kernel), List.mem_of_getElem? (i := 586) (by decide +kernel), List.mem_of_getElem? (i := 587) (by decide +kernel)⟩
theorem lw_p20 : lw_okq (⟨"EpochStore", "stopMaster", "(I)Z"⟩, 6) := ⟨⟨by decide +kernel, by decide +kernel⟩, List.mem_of_getElem? (i := 16) (by decide +kernel), List.mem_of_getElem? (i := 598) (by decide +kernel), List.mem_of_getElem? (i := 599) (by decide +kernel)⟩
theorem lw_p21 : lw_okq (⟨"EpochStore", "isUp", "(II)Z"⟩, 6) := ⟨⟨by decide +kernel, by decide +kernel⟩, List.mem_of_getElem? (i := 16) (by decide +kernel), List.mem_of_getElem? (i := 614) (by decide +kernel), List.mem_of_getElem? (i := 615) (by decide +kernel)⟩
theorem lw_p22 : lw_okq (⟨"EpochStore", "setUp", "(IIZ)V"⟩, 6) := ⟨⟨by decide +kernel, by decide +kernel⟩, List.mem_of_getElem? (i := 16) (by decide +kernel), List.mem_of_getElem? (i := 618) (by decide +kernel), List.mem_of_getElem? (i := 619) (by decide +kernel)⟩
theorem lw_p23 : lw_okq (⟨"EpochStore$Storage", "goBackTo", "(I)V"⟩, 6) := ⟨⟨by decide +kernel, by decide +kernel⟩, List.mem_of_getElem? (i := 163) (by decide +kernel), List.mem_of_getElem? (i := 634) (by decide +kernel), List.mem_of_getElem? (i := 635) (by decide +kernel)⟩
theorem lw_p24 : lw_okq (⟨"EpochStore$Storage", "keep", "(LEpochStore$Entry;)V"⟩, 6) := ⟨⟨by decide +kernel, by decide +kernel⟩, List.mem_of_getElem? (i := 163) (by decide +kernel), List.mem_of_getElem? (i := 645) (by decide +kernel), List.mem_of_getElem? (i := 646) (by decide +kernel)⟩
theorem lw_p25 : lw_okq (⟨"EpochStore", "raiseCoordinators", "(I)V"⟩, 6) := ⟨⟨by decide +kernel, by decide +kernel⟩, List.mem_of_getElem? (i := 16) (by decide +kernel), List.mem_of_getElem? (i := 662) (by decide +kernel), List.mem_of_getElem? (i := 663) (by decide +kernel)⟩
theorem lw_p26 : lw_okq (⟨"EpochStore", "beginEpoch", "(ILEpochStore$Log;)V"⟩, 6) := ⟨⟨by decide +kernel, by decide +kernel⟩, List.mem_of_getElem? (i := 16) (by decide +kernel), List.mem_of_getElem? (i := 666) (by decide +kernel), List.mem_of_getElem? (i := 667) (by decide +kernel)⟩
theorem lw_p27 : lw_okq (⟨"EpochStoreModel", "take", "(I)V"⟩, 56) := ⟨⟨by decide +kernel, by decide +kernel⟩, List.mem_of_getElem? (i := 716) (by decide +kernel), List.mem_of_getElem? (i := 905) (by decide +kernel), List.mem_of_getElem? (i := 906) (by decide +kernel)⟩
theorem lw_p28 : lw_okq (⟨"EpochStoreModel", "copyMessage", "(II)V"⟩, 56) := ⟨⟨by decide +kernel, by decide +kernel⟩, List.mem_of_getElem? (i := 716) (by decide +kernel), List.mem_of_getElem? (i := 909) (by decide +kernel), List.mem_of_getElem? (i := 910) (by decide +kernel)⟩
theorem lw_p29 : lw_okq (⟨"EpochStoreModel", "hand", "(III)V"⟩, 56) := ⟨⟨by decide +kernel, by decide +kernel⟩, List.mem_of_getElem? (i := 716) (by decide +kernel), List.mem_of_getElem? (i := 917) (by decide +kernel), List.mem_of_getElem? (i := 918) (by decide +kernel)⟩
theorem lw_p30 : lw_okq (⟨"EpochStoreModel", "send", "(IIIII)I"⟩, 56) := ⟨⟨by decide +kernel, by decide +kernel⟩, List.mem_of_getElem? (i := 716) (by decide +kernel), List.mem_of_getElem? (i := 921) (by decide +kernel), List.mem_of_getElem? (i := 922) (by decide +kernel)⟩
theorem lw_p31 : lw_okq (⟨"EpochStoreModel", "pushed", "(III)V"⟩, 56) := ⟨⟨by decide +kernel, by decide +kernel⟩, List.mem_of_getElem? (i := 716) (by decide +kernel), List.mem_of_getElem? (i := 925) (by decide +kernel), List.mem_of_getElem? (i := 926) (by decide +kernel)⟩
def lw_privs_2 : List (MethodName × Nat) := [(⟨"EpochStore$Master", "pushToOthers", "(LEpochStore$OnWay;LEpochStore$Line;)I"⟩, 12), (⟨"EpochStore$Master", "takeAcknowledgement", "(LEpochStore$Message;)V"⟩, 12), (⟨"EpochStore$Master", "settle", "(LEpochStore$Line;)V"⟩, 12), (⟨"EpochStore$Master", "removeOldestOnWay", "(I)V"⟩, 12), (⟨"EpochStore", "stopMaster", "(I)Z"⟩, 6), (⟨"EpochStore", "isUp", "(II)Z"⟩, 6), (⟨"EpochStore", "setUp", "(IIZ)V"⟩, 6), (⟨"EpochStore$Storage", "goBackTo", "(I)V"⟩, 6), (⟨"EpochStore$Storage", "keep", "(LEpochStore$Entry;)V"⟩, 6), (⟨"EpochStore", "raiseCoordinators", "(I)V"⟩, 6), (⟨"EpochStore", "beginEpoch", "(ILEpochStore$Log;)V"⟩, 6), (⟨"EpochStoreModel", "take", "(I)V"⟩, 56), (⟨"EpochStoreModel", "copyMessage", "(II)V"⟩, 56), (⟨"EpochStoreModel", "hand", "(III)V"⟩, 56), (⟨"EpochStoreModel", "send", "(IIIII)I"⟩, 56), (⟨"EpochStoreModel", "pushed", "(III)V"⟩, 56)]
theorem lw_r2 : ∀ q ∈ lw_privs_2, lw_okq q := List.forall_mem_cons.mpr ⟨lw_p16, List.forall_mem_cons.mpr ⟨lw_p17, List.forall_mem_cons.mpr ⟨lw_p18, List.forall_mem_cons.mpr ⟨lw_p19, List.forall_mem_cons.mpr ⟨lw_p20, List.forall_mem_cons.mpr ⟨lw_p21, List.forall_mem_cons.mpr ⟨lw_p22, List.forall_mem_cons.mpr ⟨lw_p23, List.forall_mem_cons.mpr ⟨lw_p24, List.forall_mem_cons.mpr ⟨lw_p25, List.forall_mem_cons.mpr ⟨lw_p26, List.forall_mem_cons.mpr ⟨lw_p27, List.forall_mem_cons.mpr ⟨lw_p28, List.forall_mem_cons.mpr ⟨lw_p29, List.forall_mem_cons.mpr ⟨lw_p30, List.forall_mem_cons.mpr ⟨lw_p31, fun _ h => absurd h List.not_mem_nil⟩⟩⟩⟩⟩⟩⟩⟩⟩⟩⟩⟩⟩⟩⟩⟩
theorem lw_p32 : lw_okq (⟨"EpochStoreModel", "toMaster", "(IIIII)V"⟩, 56) := ⟨⟨by decide +kernel, by decide +kernel⟩, List.mem_of_getElem? (i := 716) (by decide +kernel), List.mem_of_getElem? (i := 929) (by decide +kernel), List.mem_of_getElem? (i := 930) (by decide +kernel)⟩
theorem lw_p33 : lw_okq (⟨"EpochStoreModel", "ask", "(III)V"⟩, 56) := ⟨⟨by decide +kernel, by decide +kernel⟩, List.mem_of_getElem? (i := 716) (by decide +kernel), List.mem_of_getElem? (i := 933) (by decide +kernel), List.mem_of_getElem? (i := 934) (by decide +kernel)⟩
theorem lw_p34 : lw_okq (⟨"EpochStoreModel", "confirmed", "(III)V"⟩, 56) := ⟨⟨by decide +kernel, by decide +kernel⟩, List.mem_of_getElem? (i := 716) (by decide +kernel), List.mem_of_getElem? (i := 937) (by decide +kernel), List.mem_of_getElem? (i := 938) (by decide +kernel)⟩
theorem lw_p35 : lw_okq (⟨"EpochStoreModel", "judge", "(IIII)V"⟩, 56) := ⟨⟨by decide +kernel, by decide +kernel⟩, List.mem_of_getElem? (i := 716) (by decide +kernel), List.mem_of_getElem? (i := 941) (by decide +kernel), List.mem_of_getElem? (i := 942) (by decide +kernel)⟩
theorem lw_p36 : lw_okq (⟨"EpochStoreModel", "result", "(IIIII)V"⟩, 56) := ⟨⟨by decide +kernel, by decide +kernel⟩, List.mem_of_getElem? (i := 716) (by decide +kernel), List.mem_of_getElem? (i := 945) (by decide +kernel), List.mem_of_getElem? (i := 946) (by decide +kernel)⟩
theorem lw_p37 : lw_okq (⟨"EpochStoreModel", "finds", "(III)Z"⟩, 56) := ⟨⟨by decide +kernel, by decide +kernel⟩, List.mem_of_getElem? (i := 716) (by decide +kernel), List.mem_of_getElem? (i := 949) (by decide +kernel), List.mem_of_getElem? (i := 950) (by decide +kernel)⟩
theorem lw_p38 : lw_okq (⟨"EpochStoreModel", "pushOut", "(II)I"⟩, 56) := ⟨⟨by decide +kernel, by decide +kernel⟩, List.mem_of_getElem? (i := 716) (by decide +kernel), List.mem_of_getElem? (i := 953) (by decide +kernel), List.mem_of_getElem? (i := 954) (by decide +kernel)⟩
theorem lw_p39 : lw_okq (⟨"EpochStoreModel", "acknowledged", "(III)V"⟩, 56) := ⟨⟨by decide +kernel, by decide +kernel⟩, List.mem_of_getElem? (i := 716) (by decide +kernel), List.mem_of_getElem? (i := 957) (by decide +kernel), List.mem_of_getElem? (i := 958) (by decide +kernel)⟩
theorem lw_p40 : lw_okq (⟨"EpochStoreModel", "copyWay", "(I)V"⟩, 56) := ⟨⟨by decide +kernel, by decide +kernel⟩, List.mem_of_getElem? (i := 716) (by decide +kernel), List.mem_of_getElem? (i := 961) (by decide +kernel), List.mem_of_getElem? (i := 962) (by decide +kernel)⟩
theorem lw_p41 : lw_okq (⟨"EpochStoreModel", "isMaster", "(I)Z"⟩, 56) := ⟨⟨by decide +kernel, by decide +kernel⟩, List.mem_of_getElem? (i := 716) (by decide +kernel), List.mem_of_getElem? (i := 969) (by decide +kernel), List.mem_of_getElem? (i := 970) (by decide +kernel)⟩
theorem lw_p42 : lw_okq (⟨"EpochStoreModel", "coordinatorsUp", "()I"⟩, 56) := ⟨⟨by decide +kernel, by decide +kernel⟩, List.mem_of_getElem? (i := 716) (by decide +kernel), List.mem_of_getElem? (i := 988) (by decide +kernel), List.mem_of_getElem? (i := 989) (by decide +kernel)⟩
theorem lw_p43 : lw_okq (⟨"EpochStoreModel", "greatest", "()I"⟩, 56) := ⟨⟨by decide +kernel, by decide +kernel⟩, List.mem_of_getElem? (i := 716) (by decide +kernel), List.mem_of_getElem? (i := 992) (by decide +kernel), List.mem_of_getElem? (i := 993) (by decide +kernel)⟩
theorem lw_p44 : lw_okq (⟨"EpochStoreModel", "isOpen", "(I)Z"⟩, 56) := ⟨⟨by decide +kernel, by decide +kernel⟩, List.mem_of_getElem? (i := 716) (by decide +kernel), List.mem_of_getElem? (i := 1004) (by decide +kernel), List.mem_of_getElem? (i := 1005) (by decide +kernel)⟩
theorem lw_p45 : lw_okq (⟨"EpochStoreModel", "wrote", "(II)Z"⟩, 56) := ⟨⟨by decide +kernel, by decide +kernel⟩, List.mem_of_getElem? (i := 716) (by decide +kernel), List.mem_of_getElem? (i := 1009) (by decide +kernel), List.mem_of_getElem? (i := 1010) (by decide +kernel)⟩
theorem lw_p46 : lw_okq (⟨"EpochStoreModel", "reading", "(II)J"⟩, 56) := ⟨⟨by decide +kernel, by decide +kernel⟩, List.mem_of_getElem? (i := 716) (by decide +kernel), List.mem_of_getElem? (i := 1013) (by decide +kernel), List.mem_of_getElem? (i := 1014) (by decide +kernel)⟩
theorem lw_p47 : lw_okq (⟨"EpochStoreModel", "join", "(II)V"⟩, 56) := ⟨⟨by decide +kernel, by decide +kernel⟩, List.mem_of_getElem? (i := 716) (by decide +kernel), List.mem_of_getElem? (i := 1044) (by decide +kernel), List.mem_of_getElem? (i := 1045) (by decide +kernel)⟩
def lw_privs_3 : List (MethodName × Nat) := [(⟨"EpochStoreModel", "toMaster", "(IIIII)V"⟩, 56), (⟨"EpochStoreModel", "ask", "(III)V"⟩, 56), (⟨"EpochStoreModel", "confirmed", "(III)V"⟩, 56), (⟨"EpochStoreModel", "judge", "(IIII)V"⟩, 56), (⟨"EpochStoreModel", "result", "(IIIII)V"⟩, 56), (⟨"EpochStoreModel", "finds", "(III)Z"⟩, 56), (⟨"EpochStoreModel", "pushOut", "(II)I"⟩, 56), (⟨"EpochStoreModel", "acknowledged", "(III)V"⟩, 56), (⟨"EpochStoreModel", "copyWay", "(I)V"⟩, 56), (⟨"EpochStoreModel", "isMaster", "(I)Z"⟩, 56), (⟨"EpochStoreModel", "coordinatorsUp", "()I"⟩, 56), (⟨"EpochStoreModel", "greatest", "()I"⟩, 56), (⟨"EpochStoreModel", "isOpen", "(I)Z"⟩, 56), (⟨"EpochStoreModel", "wrote", "(II)Z"⟩, 56), (⟨"EpochStoreModel", "reading", "(II)J"⟩, 56), (⟨"EpochStoreModel", "join", "(II)V"⟩, 56)]
theorem lw_r3 : ∀ q ∈ lw_privs_3, lw_okq q := List.forall_mem_cons.mpr ⟨lw_p32, List.forall_mem_cons.mpr ⟨lw_p33, List.forall_mem_cons.mpr ⟨lw_p34, List.forall_mem_cons.mpr ⟨lw_p35, List.forall_mem_cons.mpr ⟨lw_p36, List.forall_mem_cons.mpr ⟨lw_p37, List.forall_mem_cons.mpr ⟨lw_p38, List.forall_mem_cons.mpr ⟨lw_p39, List.forall_mem_cons.mpr ⟨lw_p40, List.forall_mem_cons.mpr ⟨lw_p41, List.forall_mem_cons.mpr ⟨lw_p42, List.forall_mem_cons.mpr ⟨lw_p43, List.forall_mem_cons.mpr ⟨lw_p44, List.forall_mem_cons.mpr ⟨lw_p45, List.forall_mem_cons.mpr ⟨lw_p46, List.forall_mem_cons.mpr ⟨lw_p47, fun _ h => absurd h List.not_mem_nil⟩⟩⟩⟩⟩⟩⟩⟩⟩⟩⟩⟩⟩⟩⟩⟩
theorem lw_p48 : lw_okq (⟨"EpochStoreModel", "keep", "(II)V"⟩, 56) := ⟨⟨by decide +kernel, by decide +kernel⟩, List.mem_of_getElem? (i := 716) (by decide +kernel), List.mem_of_getElem? (i := 1048) (by decide +kernel), List.mem_of_getElem? (i := 1049) (by decide +kernel)⟩
theorem lw_p49 : lw_okq (⟨"EpochStoreModel", "copyLog", "(II)V"⟩, 56) := ⟨⟨by decide +kernel, by decide +kernel⟩, List.mem_of_getElem? (i := 716) (by decide +kernel), List.mem_of_getElem? (i := 1056) (by decide +kernel), List.mem_of_getElem? (i := 1057) (by decide +kernel)⟩
theorem lw_p50 : lw_okq (⟨"EpochStoreModel", "turned", "(IIZ)Z"⟩, 56) := ⟨⟨by decide +kernel, by decide +kernel⟩, List.mem_of_getElem? (i := 716) (by decide +kernel), List.mem_of_getElem? (i := 1064) (by decide +kernel), List.mem_of_getElem? (i := 1065) (by decide +kernel)⟩
def lw_privs_4 : List (MethodName × Nat) := [(⟨"EpochStoreModel", "keep", "(II)V"⟩, 56), (⟨"EpochStoreModel", "copyLog", "(II)V"⟩, 56), (⟨"EpochStoreModel", "turned", "(IIZ)Z"⟩, 56)]
theorem lw_r4 : ∀ q ∈ lw_privs_4, lw_okq q := List.forall_mem_cons.mpr ⟨lw_p48, List.forall_mem_cons.mpr ⟨lw_p49, List.forall_mem_cons.mpr ⟨lw_p50, fun _ h => absurd h List.not_mem_nil⟩⟩⟩
def lw_privs : List (MethodName × Nat) := lw_privs_1 ++ (lw_privs_2 ++ (lw_privs_3 ++ (lw_privs_4)))
def lw_tbl : List Cond := k2_sels lw_privs ++ tables_1
theorem lw_privs_ok : ∀ q ∈ lw_privs, lw_okq q := by
  show ∀ q ∈ lw_privs_1 ++ (lw_privs_2 ++ (lw_privs_3 ++ (lw_privs_4))), lw_okq q
  exact List.forall_mem_append.mpr ⟨lw_r1, List.forall_mem_append.mpr ⟨lw_r2, List.forall_mem_append.mpr ⟨lw_r3, lw_r4⟩⟩⟩
-- ===== end of PART A; then your names; then what follows =====
end
section
def Rn_ES : String := "EpochStore"
def Rn_Coordinator : String := "EpochStore$Coordinator"
def Rn_Writes : String := "EpochStore$Writes"
def Rn_Entry : String := "EpochStore$Entry"
def Rn_Message : String := "EpochStore$Message"
def Rn_Line : String := "EpochStore$Line"
def Rn_Question : String := "EpochStore$Question"
def Rn_OnWay : String := "EpochStore$OnWay"
def Rn_Master : String := "EpochStore$Master"
def Rn_Log : String := "EpochStore$Log"
def Rn_Storage : String := "EpochStore$Storage"
def Rn_Client : String := "EpochStore$Client"
def Rn_EM : String := "EpochStoreModel"
def Rn_Law : String := "EpochStoreLaw"
def Tn_ES : u_T := fun k => match k with
  | 0 => (Rn_ES, "coordinators", "[LEpochStore$Coordinator;", true)
  | 1 => (Rn_ES, "logs", "[LEpochStore$Log;", true)
  | 2 => (Rn_ES, "storages", "[LEpochStore$Storage;", true)
  | 3 => (Rn_ES, "clients", "[LEpochStore$Client;", true)
  | 4 => (Rn_ES, "masters", "[LEpochStore$Master;", true)
  | _ => (Rn_ES, "line", "LEpochStore$Line;", true)
def tn_ES : Nat → FieldType := fun k => match k with
  | 0 => .array (.object "EpochStore$Coordinator")
  | 1 => .array (.object "EpochStore$Log")
  | 2 => .array (.object "EpochStore$Storage")
  | 3 => .array (.object "EpochStore$Client")
  | 4 => .array (.object "EpochStore$Master")
  | _ => .object "EpochStore$Line"
def Tn_Coordinator : u_T := fun k => match k with
  | 0 => (Rn_Coordinator, "up", "Z", false)
  | _ => (Rn_Coordinator, "epoch", "I", false)
def tn_Coordinator : Nat → FieldType := fun k => match k with
  | 0 => .boolean
  | _ => .int
def Tn_Writes : u_T := fun k => match k with
  | 0 => (Rn_Writes, "keys", "I", false)
  | _ => (Rn_Writes, "values", "[I", true)
def tn_Writes : Nat → FieldType := fun k => match k with
  | 0 => .int
  | _ => .array .int
def Tn_Entry : u_T := fun k => match k with
  | 0 => (Rn_Entry, "version", "I", true)
  | 1 => (Rn_Entry, "before", "I", true)
  | _ => (Rn_Entry, "writes", "LEpochStore$Writes;", true)
def tn_Entry : Nat → FieldType := fun k => match k with
  | 0 => .int
  | 1 => .int
  | _ => .object "EpochStore$Writes"
def Tn_Message : u_T := fun k => match k with
  | 0 => (Rn_Message, "type", "I", false)
  | 1 => (Rn_Message, "number", "I", false)
  | 2 => (Rn_Message, "epoch", "I", false)
  | 3 => (Rn_Message, "version", "I", false)
  | 4 => (Rn_Message, "transaction", "I", false)
  | 5 => (Rn_Message, "question", "I", false)
  | 6 => (Rn_Message, "result", "I", false)
  | 7 => (Rn_Message, "noted", "I", false)
  | 8 => (Rn_Message, "writes", "LEpochStore$Writes;", false)
  | _ => (Rn_Message, "entry", "LEpochStore$Entry;", false)
def tn_Message : Nat → FieldType := fun k => match k with
  | 0 => .int
  | 1 => .int
  | 2 => .int
  | 3 => .int
  | 4 => .int
  | 5 => .int
  | 6 => .int
  | 7 => .int
  | 8 => .object "EpochStore$Writes"
  | _ => .object "EpochStore$Entry"
def Tn_Line : u_T := fun k => match k with
  | 0 => (Rn_Line, "rows", "[LEpochStore$Message;", true)
  | 1 => (Rn_Line, "lost", "LEpochStore$Message;", true)
  | _ => (Rn_Line, "count", "I", false)
def tn_Line : Nat → FieldType := fun k => match k with
  | 0 => .array (.object "EpochStore$Message")
  | 1 => .object "EpochStore$Message"
  | _ => .int
def Tn_Question : u_T := fun k => match k with
  | 0 => (Rn_Question, "number", "I", true)
  | 1 => (Rn_Question, "client", "I", true)
  | 2 => (Rn_Question, "transaction", "I", true)
  | _ => (Rn_Question, "confirmed", "I", false)
def tn_Question : Nat → FieldType := fun k => match k with
  | 0 => .int
  | 1 => .int
  | 2 => .int
  | _ => .int
def Tn_OnWay : u_T := fun k => match k with
  | 0 => (Rn_OnWay, "entry", "LEpochStore$Entry;", true)
  | 1 => (Rn_OnWay, "client", "I", true)
  | 2 => (Rn_OnWay, "transaction", "I", true)
  | _ => (Rn_OnWay, "acknowledged", "I", false)
def tn_OnWay : Nat → FieldType := fun k => match k with
  | 0 => .object "EpochStore$Entry"
  | 1 => .int
  | 2 => .int
  | _ => .int
def Tn_Master : u_T := fun k => match k with
  | 0 => (Rn_Master, "epoch", "I", true)
  | 1 => (Rn_Master, "members", "I", true)
  | 2 => (Rn_Master, "start", "I", true)
  | 3 => (Rn_Master, "last", "I", false)
  | 4 => (Rn_Master, "pushed", "I", false)
  | 5 => (Rn_Master, "committed", "I", false)
  | 6 => (Rn_Master, "latestWrite", "[I", true)
  | 7 => (Rn_Master, "questions", "[LEpochStore$Question;", true)
  | 8 => (Rn_Master, "questionCount", "I", false)
  | 9 => (Rn_Master, "questionsEver", "I", false)
  | 10 => (Rn_Master, "onWay", "[LEpochStore$OnWay;", true)
  | _ => (Rn_Master, "onWayCount", "I", false)
def tn_Master : Nat → FieldType := fun k => match k with
  | 0 => .int
  | 1 => .int
  | 2 => .int
  | 3 => .int
  | 4 => .int
  | 5 => .int
  | 6 => .array .int
  | 7 => .array (.object "EpochStore$Question")
  | 8 => .int
  | 9 => .int
  | 10 => .array (.object "EpochStore$OnWay")
  | _ => .int
def Tn_Log : u_T := fun k => match k with
  | 0 => (Rn_Log, "number", "I", true)
  | 1 => (Rn_Log, "up", "Z", false)
  | 2 => (Rn_Log, "epoch", "I", false)
  | 3 => (Rn_Log, "end", "I", false)
  | 4 => (Rn_Log, "bases", "[I", true)
  | 5 => (Rn_Log, "records", "[LEpochStore$Entry;", true)
  | _ => (Rn_Log, "count", "I", false)
def tn_Log : Nat → FieldType := fun k => match k with
  | 0 => .int
  | 1 => .boolean
  | 2 => .int
  | 3 => .int
  | 4 => .array .int
  | 5 => .array (.object "EpochStore$Entry")
  | _ => .int
def Tn_Storage : u_T := fun k => match k with
  | 0 => (Rn_Storage, "ownKeys", "I", true)
  | 1 => (Rn_Storage, "up", "Z", false)
  | 2 => (Rn_Storage, "epoch", "I", false)
  | 3 => (Rn_Storage, "at", "I", false)
  | 4 => (Rn_Storage, "records", "[LEpochStore$Entry;", true)
  | _ => (Rn_Storage, "count", "I", false)
def tn_Storage : Nat → FieldType := fun k => match k with
  | 0 => .int
  | 1 => .boolean
  | 2 => .int
  | 3 => .int
  | 4 => .array (.object "EpochStore$Entry")
  | _ => .int
def Tn_Client : u_T := fun k => match k with
  | 0 => (Rn_Client, "number", "I", true)
  | 1 => (Rn_Client, "knownEpoch", "I", false)
  | 2 => (Rn_Client, "transaction", "I", false)
  | 3 => (Rn_Client, "state", "I", false)
  | 4 => (Rn_Client, "epoch", "I", false)
  | 5 => (Rn_Client, "readVersion", "I", false)
  | 6 => (Rn_Client, "commitVersion", "I", false)
  | 7 => (Rn_Client, "noted", "I", false)
  | _ => (Rn_Client, "writes", "LEpochStore$Writes;", false)
def tn_Client : Nat → FieldType := fun k => match k with
  | 0 => .int
  | 1 => .int
  | 2 => .int
  | 3 => .int
  | 4 => .int
  | 5 => .int
  | 6 => .int
  | 7 => .int
  | _ => .object "EpochStore$Writes"
def Tn_EM : u_T := fun k => match k with
  | 0 => (Rn_EM, "known", "[I", false)
  | 1 => (Rn_EM, "coordinatorUp", "[Z", false)
  | 2 => (Rn_EM, "logEpoch", "[I", false)
  | 3 => (Rn_EM, "logUp", "[Z", false)
  | 4 => (Rn_EM, "logEnd", "[I", false)
  | 5 => (Rn_EM, "logMany", "[I", false)
  | 6 => (Rn_EM, "logVersion", "[I", false)
  | 7 => (Rn_EM, "logMask", "[I", false)
  | 8 => (Rn_EM, "logValue", "[I", false)
  | 9 => (Rn_EM, "base", "[I", false)
  | 10 => (Rn_EM, "storeEpoch", "[I", false)
  | 11 => (Rn_EM, "storeUp", "[Z", false)
  | 12 => (Rn_EM, "storeAt", "[I", false)
  | 13 => (Rn_EM, "storeMany", "[I", false)
  | 14 => (Rn_EM, "storeVersion", "[I", false)
  | 15 => (Rn_EM, "storeMask", "[I", false)
  | 16 => (Rn_EM, "storeValue", "[I", false)
  | 17 => (Rn_EM, "there", "[Z", false)
  | 18 => (Rn_EM, "logsOf", "[I", false)
  | 19 => (Rn_EM, "startOf", "[I", false)
  | 20 => (Rn_EM, "lastOf", "[I", false)
  | 21 => (Rn_EM, "pushedOf", "[I", false)
  | 22 => (Rn_EM, "doneOf", "[I", false)
  | 23 => (Rn_EM, "latest", "[I", false)
  | 24 => (Rn_EM, "asked", "[I", false)
  | 25 => (Rn_EM, "questions", "[I", false)
  | 26 => (Rn_EM, "questionNumber", "[I", false)
  | 27 => (Rn_EM, "questionClient", "[I", false)
  | 28 => (Rn_EM, "questionTurn", "[I", false)
  | 29 => (Rn_EM, "questionHas", "[I", false)
  | 30 => (Rn_EM, "ways", "[I", false)
  | 31 => (Rn_EM, "wayVersion", "[I", false)
  | 32 => (Rn_EM, "wayBefore", "[I", false)
  | 33 => (Rn_EM, "wayMask", "[I", false)
  | 34 => (Rn_EM, "wayValue", "[I", false)
  | 35 => (Rn_EM, "wayHas", "[I", false)
  | 36 => (Rn_EM, "wayClient", "[I", false)
  | 37 => (Rn_EM, "wayTurn", "[I", false)
  | 38 => (Rn_EM, "clientEpoch", "[I", false)
  | 39 => (Rn_EM, "turn", "[I", false)
  | 40 => (Rn_EM, "state", "[I", false)
  | 41 => (Rn_EM, "readAt", "[I", false)
  | 42 => (Rn_EM, "begunAt", "[I", false)
  | 43 => (Rn_EM, "noted", "[I", false)
  | 44 => (Rn_EM, "written", "[I", false)
  | 45 => (Rn_EM, "value", "[I", false)
  | 46 => (Rn_EM, "won", "[I", false)
  | 47 => (Rn_EM, "lines", "I", false)
  | 48 => (Rn_EM, "type", "[I", false)
  | 49 => (Rn_EM, "who", "[I", false)
  | 50 => (Rn_EM, "epoch", "[I", false)
  | 51 => (Rn_EM, "version", "[I", false)
  | 52 => (Rn_EM, "number", "[I", false)
  | 53 => (Rn_EM, "other", "[I", false)
  | 54 => (Rn_EM, "mask", "[I", false)
  | _ => (Rn_EM, "content", "[I", false)
def tn_EM : Nat → FieldType := fun k => match k with
  | 0 => .array .int
  | 1 => .array .boolean
  | 2 => .array .int
  | 3 => .array .boolean
  | 4 => .array .int
  | 5 => .array .int
  | 6 => .array .int
  | 7 => .array .int
  | 8 => .array .int
  | 9 => .array .int
  | 10 => .array .int
  | 11 => .array .boolean
  | 12 => .array .int
  | 13 => .array .int
  | 14 => .array .int
  | 15 => .array .int
  | 16 => .array .int
  | 17 => .array .boolean
  | 18 => .array .int
  | 19 => .array .int
  | 20 => .array .int
  | 21 => .array .int
  | 22 => .array .int
  | 23 => .array .int
  | 24 => .array .int
  | 25 => .array .int
  | 26 => .array .int
  | 27 => .array .int
  | 28 => .array .int
  | 29 => .array .int
  | 30 => .array .int
  | 31 => .array .int
  | 32 => .array .int
  | 33 => .array .int
  | 34 => .array .int
  | 35 => .array .int
  | 36 => .array .int
  | 37 => .array .int
  | 38 => .array .int
  | 39 => .array .int
  | 40 => .array .int
  | 41 => .array .int
  | 42 => .array .int
  | 43 => .array .int
  | 44 => .array .int
  | 45 => .array .int
  | 46 => .array .int
  | 47 => .int
  | 48 => .array .int
  | 49 => .array .int
  | 50 => .array .int
  | 51 => .array .int
  | 52 => .array .int
  | 53 => .array .int
  | 54 => .array .int
  | _ => .array .int
abbrev classes : List vw_C := [(Rn_ES, Tn_ES, 6), (Rn_Coordinator, Tn_Coordinator, 2), (Rn_Writes, Tn_Writes, 2), (Rn_Entry, Tn_Entry, 3), (Rn_Message, Tn_Message, 10), (Rn_Line, Tn_Line, 3), (Rn_Question, Tn_Question, 4), (Rn_OnWay, Tn_OnWay, 4), (Rn_Master, Tn_Master, 12), (Rn_Log, Tn_Log, 7), (Rn_Storage, Tn_Storage, 6), (Rn_Client, Tn_Client, 9), (Rn_EM, Tn_EM, 56)]
abbrev b_Message_init : ByteArray := prog_8_method_1_code
def y_Message_init : MethodName := ⟨Rn_Message, "<init>", "()V"⟩
abbrev b_Line_init : ByteArray := prog_5_method_1_code
def y_Line_init : MethodName := ⟨Rn_Line, "<init>", "()V"⟩
abbrev b_Coordinator_init : ByteArray := prog_3_method_1_code
def y_Coordinator_init : MethodName := ⟨Rn_Coordinator, "<init>", "()V"⟩
abbrev b_Log_init : ByteArray := prog_6_method_1_code
def y_Log_init : MethodName := ⟨Rn_Log, "<init>", "(I)V"⟩
abbrev b_Storage_init : ByteArray := prog_11_method_1_code
def y_Storage_init : MethodName := ⟨Rn_Storage, "<init>", "(I)V"⟩
abbrev b_Writes_init : ByteArray := prog_12_method_1_code
def y_Writes_init : MethodName := ⟨Rn_Writes, "<init>", "()V"⟩
abbrev b_Client_init : ByteArray := prog_2_method_1_code
def y_Client_init : MethodName := ⟨Rn_Client, "<init>", "(I)V"⟩
abbrev b_Master_init : ByteArray := prog_7_method_1_code
def y_Master_init : MethodName := ⟨Rn_Master, "<init>", "(III)V"⟩
abbrev b_ES_init : ByteArray := prog_1_method_1_code
def y_ES_init : MethodName := ⟨Rn_ES, "<init>", "()V"⟩
abbrev b_ES_epochOfMajority : ByteArray := prog_1_method_37_code
def y_ES_epochOfMajority : MethodName := ⟨Rn_ES, "epochOfMajority", "()I"⟩
abbrev b_ES_isClient : ByteArray := prog_1_method_25_code
def y_ES_isClient : MethodName := ⟨Rn_ES, "isClient", "(I)Z"⟩
abbrev b_ES_find : ByteArray := prog_1_method_2_code
def y_ES_find : MethodName := ⟨Rn_ES, "find", "(I)I"⟩
abbrev b_Client_isBusy : ByteArray := prog_2_method_3_code
def y_Client_isBusy : MethodName := ⟨Rn_Client, "isBusy", "()Z"⟩
abbrev b_Message_reset : ByteArray := prog_8_method_2_code
def y_Message_reset : MethodName := ⟨Rn_Message, "reset", "(III)V"⟩
abbrev b_Line_send : ByteArray := prog_5_method_3_code
def y_Line_send : MethodName := ⟨Rn_Line, "send", "(III)LEpochStore$Message;"⟩
abbrev b_Client_ask : ByteArray := prog_2_method_4_code
def y_Client_ask : MethodName := ⟨Rn_Client, "ask", "(LEpochStore$Line;)V"⟩
abbrev b_ES_begin : ByteArray := prog_1_method_3_code
def y_ES_begin : MethodName := ⟨Rn_ES, "begin", "(I)Z"⟩
abbrev b_ES_isOpen : ByteArray := prog_1_method_31_code
def y_ES_isOpen : MethodName := ⟨Rn_ES, "isOpen", "(I)Z"⟩
abbrev b_ES_isKey : ByteArray := prog_1_method_24_code
def y_ES_isKey : MethodName := ⟨Rn_ES, "isKey", "(I)Z"⟩
abbrev b_Writes_has : ByteArray := prog_12_method_3_code
def y_Writes_has : MethodName := ⟨Rn_Writes, "has", "(I)Z"⟩
abbrev b_Storage_valueAt : ByteArray := prog_11_method_6_code
def y_Storage_valueAt : MethodName := ⟨Rn_Storage, "valueAt", "(III)J"⟩
abbrev b_ES_valueFor : ByteArray := prog_1_method_36_code
def y_ES_valueFor : MethodName := ⟨Rn_ES, "valueFor", "(LEpochStore$Client;I)J"⟩
abbrev b_ES_isValue : ByteArray := prog_1_method_29_code
def y_ES_isValue : MethodName := ⟨Rn_ES, "isValue", "(J)Z"⟩
abbrev b_Client_noteUnwritten : ByteArray := prog_2_method_5_code
def y_Client_noteUnwritten : MethodName := ⟨Rn_Client, "noteUnwritten", "(I)V"⟩
abbrev b_ES_read : ByteArray := prog_1_method_4_code
def y_ES_read : MethodName := ⟨Rn_ES, "read", "(II)J"⟩
abbrev b_ES_range : ByteArray := prog_1_method_5_code
def y_ES_range : MethodName := ⟨Rn_ES, "range", "(III)J"⟩
abbrev b_Writes_put : ByteArray := prog_12_method_2_code
def y_Writes_put : MethodName := ⟨Rn_Writes, "put", "(II)V"⟩
abbrev b_ES_write : ByteArray := prog_1_method_6_code
def y_ES_write : MethodName := ⟨Rn_ES, "write", "(III)Z"⟩
abbrev b_Client_finish : ByteArray := prog_2_method_6_code
def y_Client_finish : MethodName := ⟨Rn_Client, "finish", "(LEpochStore$Line;)V"⟩
abbrev b_ES_commit : ByteArray := prog_1_method_7_code
def y_ES_commit : MethodName := ⟨Rn_ES, "commit", "(I)Z"⟩
abbrev b_Client_drop : ByteArray := prog_2_method_7_code
def y_Client_drop : MethodName := ⟨Rn_Client, "drop", "()V"⟩
abbrev b_ES_giveUp : ByteArray := prog_1_method_8_code
def y_ES_giveUp : MethodName := ⟨Rn_ES, "giveUp", "(I)Z"⟩
abbrev b_Client_code : ByteArray := prog_2_method_2_code
def y_Client_code : MethodName := ⟨Rn_Client, "code", "()I"⟩
abbrev b_ES_status : ByteArray := prog_1_method_9_code
def y_ES_status : MethodName := ⟨Rn_ES, "status", "(I)I"⟩
abbrev b_ES_messages : ByteArray := prog_1_method_10_code
def y_ES_messages : MethodName := ⟨Rn_ES, "messages", "()I"⟩
abbrev b_Line_has : ByteArray := prog_5_method_2_code
def y_Line_has : MethodName := ⟨Rn_Line, "has", "(I)Z"⟩
abbrev b_Message_code : ByteArray := prog_8_method_3_code
def y_Message_code : MethodName := ⟨Rn_Message, "code", "()I"⟩
abbrev b_ES_message : ByteArray := prog_1_method_11_code
def y_ES_message : MethodName := ⟨Rn_ES, "message", "(I)I"⟩
abbrev b_Line_take : ByteArray := prog_5_method_4_code
def y_Line_take : MethodName := ⟨Rn_Line, "take", "(I)LEpochStore$Message;"⟩
abbrev b_Log_takeRecord : ByteArray := prog_6_method_4_code
def y_Log_takeRecord : MethodName := ⟨Rn_Log, "takeRecord", "(LEpochStore$Entry;)Z"⟩
abbrev b_Log_receive : ByteArray := prog_6_method_3_code
def y_Log_receive : MethodName := ⟨Rn_Log, "receive", "(LEpochStore$Message;LEpochStore$Line;)V"⟩
abbrev b_Client_receive : ByteArray := prog_2_method_8_code
def y_Client_receive : MethodName := ⟨Rn_Client, "receive", "(LEpochStore$Message;)V"⟩
abbrev b_ES_isMaster : ByteArray := prog_1_method_30_code
def y_ES_isMaster : MethodName := ⟨Rn_ES, "isMaster", "(I)Z"⟩
abbrev b_Question_init : ByteArray := prog_10_method_1_code
def y_Question_init : MethodName := ⟨Rn_Question, "<init>", "(III)V"⟩
abbrev b_Master_openQuestion : ByteArray := prog_7_method_5_code
def y_Master_openQuestion : MethodName := ⟨Rn_Master, "openQuestion", "(LEpochStore$Message;LEpochStore$Line;)V"⟩
abbrev b_Master_placeOfQuestion : ByteArray := prog_7_method_7_code
def y_Master_placeOfQuestion : MethodName := ⟨Rn_Master, "placeOfQuestion", "(I)I"⟩
abbrev b_Master_answer : ByteArray := prog_7_method_8_code
def y_Master_answer : MethodName := ⟨Rn_Master, "answer", "(LEpochStore$Question;LEpochStore$Line;)V"⟩
abbrev b_Master_removeQuestion : ByteArray := prog_7_method_9_code
def y_Master_removeQuestion : MethodName := ⟨Rn_Master, "removeQuestion", "(I)V"⟩
abbrev b_Master_takeConfirmation : ByteArray := prog_7_method_6_code
def y_Master_takeConfirmation : MethodName := ⟨Rn_Master, "takeConfirmation", "(LEpochStore$Message;LEpochStore$Line;)V"⟩
abbrev b_Master_sendResult : ByteArray := prog_7_method_19_code
def y_Master_sendResult : MethodName := ⟨Rn_Master, "sendResult", "(IIILEpochStore$Line;)LEpochStore$Message;"⟩
abbrev b_Master_findsConflict : ByteArray := prog_7_method_12_code
def y_Master_findsConflict : MethodName := ⟨Rn_Master, "findsConflict", "(ILEpochStore$Message;)Z"⟩
abbrev b_Master_letPass : ByteArray := prog_7_method_13_code
def y_Master_letPass : MethodName := ⟨Rn_Master, "letPass", "(ILEpochStore$Writes;)V"⟩
abbrev b_Master_passesResolvers : ByteArray := prog_7_method_11_code
def y_Master_passesResolvers : MethodName := ⟨Rn_Master, "passesResolvers", "(LEpochStore$Message;)Z"⟩
abbrev b_Entry_init : ByteArray := prog_4_method_1_code
def y_Entry_init : MethodName := ⟨Rn_Entry, "<init>", "(IILEpochStore$Writes;)V"⟩
abbrev b_OnWay_init : ByteArray := prog_9_method_1_code
def y_OnWay_init : MethodName := ⟨Rn_OnWay, "<init>", "(LEpochStore$Entry;II)V"⟩
abbrev b_Master_pushToOthers : ByteArray := prog_7_method_15_code
def y_Master_pushToOthers : MethodName := ⟨Rn_Master, "pushToOthers", "(LEpochStore$OnWay;LEpochStore$Line;)I"⟩
abbrev b_Master_putOnWay : ByteArray := prog_7_method_14_code
def y_Master_putOnWay : MethodName := ⟨Rn_Master, "putOnWay", "(LEpochStore$Message;LEpochStore$Line;)V"⟩
abbrev b_Master_decide : ByteArray := prog_7_method_10_code
def y_Master_decide : MethodName := ⟨Rn_Master, "decide", "(LEpochStore$Message;LEpochStore$Line;)V"⟩
abbrev b_Master_takeAcknowledgement : ByteArray := prog_7_method_16_code
def y_Master_takeAcknowledgement : MethodName := ⟨Rn_Master, "takeAcknowledgement", "(LEpochStore$Message;)V"⟩
abbrev b_Master_removeOldestOnWay : ByteArray := prog_7_method_18_code
def y_Master_removeOldestOnWay : MethodName := ⟨Rn_Master, "removeOldestOnWay", "(I)V"⟩
abbrev b_Master_settle : ByteArray := prog_7_method_17_code
def y_Master_settle : MethodName := ⟨Rn_Master, "settle", "(LEpochStore$Line;)V"⟩
abbrev b_Master_receive : ByteArray := prog_7_method_3_code
def y_Master_receive : MethodName := ⟨Rn_Master, "receive", "(LEpochStore$Message;LEpochStore$Line;)V"⟩
abbrev b_ES_deliver : ByteArray := prog_1_method_12_code
def y_ES_deliver : MethodName := ⟨Rn_ES, "deliver", "(I)I"⟩
abbrev b_ES_lose : ByteArray := prog_1_method_13_code
def y_ES_lose : MethodName := ⟨Rn_ES, "lose", "(I)Z"⟩
abbrev b_ES_stopMaster : ByteArray := prog_1_method_35_code
def y_ES_stopMaster : MethodName := ⟨Rn_ES, "stopMaster", "(I)Z"⟩
abbrev b_ES_isCoordinator : ByteArray := prog_1_method_26_code
def y_ES_isCoordinator : MethodName := ⟨Rn_ES, "isCoordinator", "(I)Z"⟩
abbrev b_ES_isLog : ByteArray := prog_1_method_27_code
def y_ES_isLog : MethodName := ⟨Rn_ES, "isLog", "(I)Z"⟩
abbrev b_ES_isStorage : ByteArray := prog_1_method_28_code
def y_ES_isStorage : MethodName := ⟨Rn_ES, "isStorage", "(I)Z"⟩
abbrev b_ES_isServer : ByteArray := prog_1_method_32_code
def y_ES_isServer : MethodName := ⟨Rn_ES, "isServer", "(II)Z"⟩
abbrev b_ES_isUp : ByteArray := prog_1_method_33_code
def y_ES_isUp : MethodName := ⟨Rn_ES, "isUp", "(II)Z"⟩
abbrev b_ES_setUp : ByteArray := prog_1_method_34_code
def y_ES_setUp : MethodName := ⟨Rn_ES, "setUp", "(IIZ)V"⟩
abbrev b_ES_stop : ByteArray := prog_1_method_14_code
def y_ES_stop : MethodName := ⟨Rn_ES, "stop", "(II)Z"⟩
abbrev b_ES_start : ByteArray := prog_1_method_15_code
def y_ES_start : MethodName := ⟨Rn_ES, "start", "(II)Z"⟩
abbrev b_Storage_goBackTo : ByteArray := prog_11_method_4_code
def y_Storage_goBackTo : MethodName := ⟨Rn_Storage, "goBackTo", "(I)V"⟩
abbrev b_Log_firstAbove : ByteArray := prog_6_method_7_code
def y_Log_firstAbove : MethodName := ⟨Rn_Log, "firstAbove", "(I)LEpochStore$Entry;"⟩
abbrev b_Storage_keep : ByteArray := prog_11_method_5_code
def y_Storage_keep : MethodName := ⟨Rn_Storage, "keep", "(LEpochStore$Entry;)V"⟩
abbrev b_Storage_advanceFrom : ByteArray := prog_11_method_3_code
def y_Storage_advanceFrom : MethodName := ⟨Rn_Storage, "advanceFrom", "(LEpochStore$Log;)I"⟩
abbrev b_ES_pull : ByteArray := prog_1_method_16_code
def y_ES_pull : MethodName := ⟨Rn_ES, "pull", "(II)I"⟩
abbrev b_Master_pushAgain : ByteArray := prog_7_method_4_code
def y_Master_pushAgain : MethodName := ⟨Rn_Master, "pushAgain", "(LEpochStore$Line;)I"⟩
abbrev b_ES_push : ByteArray := prog_1_method_17_code
def y_ES_push : MethodName := ⟨Rn_ES, "push", "(I)I"⟩
abbrev b_ES_raiseCoordinators : ByteArray := prog_1_method_38_code
def y_ES_raiseCoordinators : MethodName := ⟨Rn_ES, "raiseCoordinators", "(I)V"⟩
abbrev b_Log_copyFrom : ByteArray := prog_6_method_5_code
def y_Log_copyFrom : MethodName := ⟨Rn_Log, "copyFrom", "(LEpochStore$Log;)V"⟩
abbrev b_Log_enter : ByteArray := prog_6_method_6_code
def y_Log_enter : MethodName := ⟨Rn_Log, "enter", "(III)V"⟩
abbrev b_ES_beginEpoch : ByteArray := prog_1_method_39_code
def y_ES_beginEpoch : MethodName := ⟨Rn_ES, "beginEpoch", "(ILEpochStore$Log;)V"⟩
abbrev b_ES_recover : ByteArray := prog_1_method_18_code
def y_ES_recover : MethodName := ⟨Rn_ES, "recover", "(I)I"⟩
abbrev b_Log_code : ByteArray := prog_6_method_2_code
def y_Log_code : MethodName := ⟨Rn_Log, "code", "()I"⟩
abbrev b_ES_log : ByteArray := prog_1_method_19_code
def y_ES_log : MethodName := ⟨Rn_ES, "log", "(I)I"⟩
abbrev b_Storage_code : ByteArray := prog_11_method_2_code
def y_Storage_code : MethodName := ⟨Rn_Storage, "code", "()I"⟩
abbrev b_ES_storage : ByteArray := prog_1_method_20_code
def y_ES_storage : MethodName := ⟨Rn_ES, "storage", "(I)I"⟩
abbrev b_Master_code : ByteArray := prog_7_method_2_code
def y_Master_code : MethodName := ⟨Rn_Master, "code", "()I"⟩
abbrev b_ES_master : ByteArray := prog_1_method_21_code
def y_ES_master : MethodName := ⟨Rn_ES, "master", "(I)I"⟩
abbrev b_ES_committed : ByteArray := prog_1_method_22_code
def y_ES_committed : MethodName := ⟨Rn_ES, "committed", "(I)I"⟩
abbrev b_Coordinator_code : ByteArray := prog_3_method_2_code
def y_Coordinator_code : MethodName := ⟨Rn_Coordinator, "code", "()I"⟩
abbrev b_ES_coordinator : ByteArray := prog_1_method_23_code
def y_ES_coordinator : MethodName := ⟨Rn_ES, "coordinator", "(I)I"⟩
abbrev b_EM_init : ByteArray := prog_14_method_1_code
def y_EM_init : MethodName := ⟨Rn_EM, "<init>", "()V"⟩
abbrev b_EM_send : ByteArray := prog_14_method_2_code
def y_EM_send : MethodName := ⟨Rn_EM, "send", "(IIIII)I"⟩
abbrev b_EM_copyMessage : ByteArray := prog_14_method_4_code
def y_EM_copyMessage : MethodName := ⟨Rn_EM, "copyMessage", "(II)V"⟩
abbrev b_EM_take : ByteArray := prog_14_method_3_code
def y_EM_take : MethodName := ⟨Rn_EM, "take", "(I)V"⟩
abbrev b_EM_messages : ByteArray := prog_14_method_5_code
def y_EM_messages : MethodName := ⟨Rn_EM, "messages", "()I"⟩
abbrev b_EM_message : ByteArray := prog_14_method_6_code
def y_EM_message : MethodName := ⟨Rn_EM, "message", "(I)I"⟩
abbrev b_EM_lose : ByteArray := prog_14_method_7_code
def y_EM_lose : MethodName := ⟨Rn_EM, "lose", "(I)Z"⟩
abbrev b_EM_pushed : ByteArray := prog_14_method_10_code
def y_EM_pushed : MethodName := ⟨Rn_EM, "pushed", "(III)V"⟩
abbrev b_EM_ask : ByteArray := prog_14_method_12_code
def y_EM_ask : MethodName := ⟨Rn_EM, "ask", "(III)V"⟩
abbrev b_EM_confirmed : ByteArray := prog_14_method_13_code
def y_EM_confirmed : MethodName := ⟨Rn_EM, "confirmed", "(III)V"⟩
abbrev b_EM_result : ByteArray := prog_14_method_14_code
def y_EM_result : MethodName := ⟨Rn_EM, "result", "(IIIII)V"⟩
abbrev b_EM_finds : ByteArray := prog_14_method_15_code
def y_EM_finds : MethodName := ⟨Rn_EM, "finds", "(III)Z"⟩
abbrev b_EM_pushOut : ByteArray := prog_14_method_17_code
def y_EM_pushOut : MethodName := ⟨Rn_EM, "pushOut", "(II)I"⟩
abbrev b_EM_judge : ByteArray := prog_14_method_16_code
def y_EM_judge : MethodName := ⟨Rn_EM, "judge", "(IIII)V"⟩
abbrev b_EM_copyWay : ByteArray := prog_14_method_19_code
def y_EM_copyWay : MethodName := ⟨Rn_EM, "copyWay", "(I)V"⟩
abbrev b_EM_acknowledged : ByteArray := prog_14_method_18_code
def y_EM_acknowledged : MethodName := ⟨Rn_EM, "acknowledged", "(III)V"⟩
abbrev b_EM_toMaster : ByteArray := prog_14_method_11_code
def y_EM_toMaster : MethodName := ⟨Rn_EM, "toMaster", "(IIIII)V"⟩
abbrev b_EM_hand : ByteArray := prog_14_method_9_code
def y_EM_hand : MethodName := ⟨Rn_EM, "hand", "(III)V"⟩
abbrev b_EM_deliver : ByteArray := prog_14_method_8_code
def y_EM_deliver : MethodName := ⟨Rn_EM, "deliver", "(I)I"⟩
abbrev b_EM_isMaster : ByteArray := prog_14_method_20_code
def y_EM_isMaster : MethodName := ⟨Rn_EM, "isMaster", "(I)Z"⟩
abbrev b_EM_push : ByteArray := prog_14_method_21_code
def y_EM_push : MethodName := ⟨Rn_EM, "push", "(I)I"⟩
abbrev b_EM_master : ByteArray := prog_14_method_22_code
def y_EM_master : MethodName := ⟨Rn_EM, "master", "(I)I"⟩
abbrev b_EM_committed : ByteArray := prog_14_method_23_code
def y_EM_committed : MethodName := ⟨Rn_EM, "committed", "(I)I"⟩
abbrev b_EM_isClient : ByteArray := prog_14_method_24_code
def y_EM_isClient : MethodName := ⟨Rn_EM, "isClient", "(I)Z"⟩
abbrev b_EM_isOpen : ByteArray := prog_14_method_25_code
def y_EM_isOpen : MethodName := ⟨Rn_EM, "isOpen", "(I)Z"⟩
abbrev b_EM_coordinatorsUp : ByteArray := prog_14_method_26_code
def y_EM_coordinatorsUp : MethodName := ⟨Rn_EM, "coordinatorsUp", "()I"⟩
abbrev b_EM_greatest : ByteArray := prog_14_method_27_code
def y_EM_greatest : MethodName := ⟨Rn_EM, "greatest", "()I"⟩
abbrev b_EM_find : ByteArray := prog_14_method_28_code
def y_EM_find : MethodName := ⟨Rn_EM, "find", "(I)I"⟩
abbrev b_EM_begin : ByteArray := prog_14_method_29_code
def y_EM_begin : MethodName := ⟨Rn_EM, "begin", "(I)Z"⟩
abbrev b_EM_reading : ByteArray := prog_14_method_30_code
def y_EM_reading : MethodName := ⟨Rn_EM, "reading", "(II)J"⟩
abbrev b_EM_wrote : ByteArray := prog_14_method_31_code
def y_EM_wrote : MethodName := ⟨Rn_EM, "wrote", "(II)Z"⟩
abbrev b_EM_read : ByteArray := prog_14_method_32_code
def y_EM_read : MethodName := ⟨Rn_EM, "read", "(II)J"⟩
abbrev b_EM_range : ByteArray := prog_14_method_33_code
def y_EM_range : MethodName := ⟨Rn_EM, "range", "(III)J"⟩
abbrev b_EM_write : ByteArray := prog_14_method_34_code
def y_EM_write : MethodName := ⟨Rn_EM, "write", "(III)Z"⟩
abbrev b_EM_commit : ByteArray := prog_14_method_35_code
def y_EM_commit : MethodName := ⟨Rn_EM, "commit", "(I)Z"⟩
abbrev b_EM_giveUp : ByteArray := prog_14_method_36_code
def y_EM_giveUp : MethodName := ⟨Rn_EM, "giveUp", "(I)Z"⟩
abbrev b_EM_status : ByteArray := prog_14_method_37_code
def y_EM_status : MethodName := ⟨Rn_EM, "status", "(I)I"⟩
abbrev b_EM_join : ByteArray := prog_14_method_38_code
def y_EM_join : MethodName := ⟨Rn_EM, "join", "(II)V"⟩
abbrev b_EM_keep : ByteArray := prog_14_method_40_code
def y_EM_keep : MethodName := ⟨Rn_EM, "keep", "(II)V"⟩
abbrev b_EM_pull : ByteArray := prog_14_method_39_code
def y_EM_pull : MethodName := ⟨Rn_EM, "pull", "(II)I"⟩
abbrev b_EM_copyLog : ByteArray := prog_14_method_41_code
def y_EM_copyLog : MethodName := ⟨Rn_EM, "copyLog", "(II)V"⟩
abbrev b_EM_recover : ByteArray := prog_14_method_42_code
def y_EM_recover : MethodName := ⟨Rn_EM, "recover", "(I)I"⟩
abbrev b_EM_turned : ByteArray := prog_14_method_43_code
def y_EM_turned : MethodName := ⟨Rn_EM, "turned", "(IIZ)Z"⟩
abbrev b_EM_stop : ByteArray := prog_14_method_44_code
def y_EM_stop : MethodName := ⟨Rn_EM, "stop", "(II)Z"⟩
abbrev b_EM_start : ByteArray := prog_14_method_45_code
def y_EM_start : MethodName := ⟨Rn_EM, "start", "(II)Z"⟩
abbrev b_EM_log : ByteArray := prog_14_method_46_code
def y_EM_log : MethodName := ⟨Rn_EM, "log", "(I)I"⟩
abbrev b_EM_storage : ByteArray := prog_14_method_47_code
def y_EM_storage : MethodName := ⟨Rn_EM, "storage", "(I)I"⟩
abbrev b_EM_coordinator : ByteArray := prog_14_method_48_code
def y_EM_coordinator : MethodName := ⟨Rn_EM, "coordinator", "(I)I"⟩
def xx_rt : List (List Bool) := [[true, true, true, true, true, true], [false, false], [false, true], [false, false, true], [false, false, false, false, false, false, false, false, true, true], [true, true, false], [false, false, false, false], [true, false, false, false], [false, false, false, false, false, false, true, true, false, false, true, false], [false, false, false, false, true, true, false], [false, false, false, false, true, false], [false, false, false, false, false, false, false, false, true], [true, true, true, true, true, true, true, true, true, true, true, true, true, true, true, true, true, true, true, true, true, true, true, true, true, true, true, true, true, true, true, true, true, true, true, true, true, true, true, true, true, true, true, true, true, true, true, false, true, true, true, true, true, true, true, true]]
def xx_r (ci k : Nat) : Bool := (xx_rt.getD ci []).getD k false
def xx_n (ci : Nat) : Nat := (xx_rt.getD ci []).length
def xx_a (t : Nat) : Bool := Nat.ble 2 t
def xm_N : Nat := 56
def xm_c : Nat := 12
def xm_l : Nat := 47
def xm_tt : List Nat := [0, 1, 0, 1, 0, 0, 0, 0, 0, 0, 0, 1, 0, 0, 0, 0, 0, 1, 0, 0, 0, 0, 0, 0, 0, 0, 0, 0, 0, 0, 0, 0, 0, 0, 0, 0, 0, 0, 0, 0, 0, 0, 0, 0, 0, 0, 0, 0, 0, 0, 0, 0, 0, 0, 0, 0]
def xm_t (k : Nat) : Nat := xm_tt.getD k 0
def xm_nn : List Nat := [3, 3, 3, 3, 3, 3, 300, 300, 2400, 30, 2, 2, 2, 2, 256, 256, 2048, 10, 10, 10, 10, 10, 10, 80, 10, 10, 80, 80, 80, 80, 10, 80, 80, 80, 640, 80, 80, 80, 3, 3, 3, 3, 3, 3, 3, 24, 3, 0, 25, 25, 25, 25, 25, 25, 25, 200]
def xm_n (k : Nat) : Nat := xm_nn.getD k 0
-- the reference's fields: 0 known, 1 coordinatorUp, 2 logEpoch, 3 logUp, 4 logEnd, 5 logMany, 6 logVersion, 7 logMask, 8 logValue, 9 base, 10 storeEpoch, 11 storeUp, 12 storeAt, 13 storeMany, 14 storeVersion, 15 storeMask, 16 storeValue, 17 there, 18 logsOf, 19 startOf, 20 lastOf, 21 pushedOf, 22 doneOf, 23 latest, 24 asked, 25 questions, 26 questionNumber, 27 questionClient, 28 questionTurn, 29 questionHas, 30 ways, 31 wayVersion, 32 wayBefore, 33 wayMask, 34 wayValue, 35 wayHas, 36 wayClient, 37 wayTurn, 38 clientEpoch, 39 turn, 40 state, 41 readAt, 42 begunAt, 43 noted, 44 written, 45 value, 46 won, 47 lines, 48 type, 49 who, 50 epoch, 51 version, 52 number, 53 other, 54 mask, 55 content
def xw_q : List (String × Nat × MethodName × String) := [(Rn_Line, 17, y_Message_init, "EpochStore"), (Rn_ES, 46, y_Coordinator_init, "EpochStore"), (Rn_Client, 23, y_Writes_init, "EpochStore")]
def xw_o : List String := [Rn_Coordinator, Rn_Log, Rn_Storage, Rn_Client, Rn_Master, Rn_Message, Rn_Entry, Rn_Question, Rn_OnWay]
end
section
def w_all_0 : List Cond := [.methodLink Rn_Message 1 objectInit, .instanceMethod objectInit, .code objectInit ⟨#[0xb1]⟩ 1 none, .methodLink Rn_Line 3 objectInit, .classLink Rn_Line 9 Rn_Message, .fieldLink Rn_Line 11 Rn_Line "rows" "[LEpochStore$Message;", .instantiable Rn_Message 10, .initialized Rn_Message, .code y_Message_init b_Message_init 1 none, .instanceMethod y_Message_init, .fieldLink Rn_Line 18 Rn_Line "lost" "LEpochStore$Message;", .methodLink Rn_Coordinator 3 objectInit, .fieldLink Rn_Coordinator 9 Rn_Coordinator "up" "Z", .fieldLink Rn_Coordinator 15 Rn_Coordinator "epoch" "I", .methodLink Rn_Log 3 objectInit, .fieldLink Rn_Log 9 Rn_Log "up" "Z", .fieldLink Rn_Log 15 Rn_Log "epoch" "I", .fieldLink Rn_Log 19 Rn_Log "end" "I", .arrayClass .int, .fieldLink Rn_Log 22 Rn_Log "bases" "[I", .classLink Rn_Log 26 Rn_Entry, .fieldLink Rn_Log 28 Rn_Log "records" "[LEpochStore$Entry;", .fieldLink Rn_Log 32 Rn_Log "number" "I", .methodLink Rn_Storage 3 objectInit, .fieldLink Rn_Storage 9 Rn_Storage "up" "Z", .fieldLink Rn_Storage 15 Rn_Storage "epoch" "I", .fieldLink Rn_Storage 19 Rn_Storage "at" "I", .classLink Rn_Storage 22 Rn_Entry, .fieldLink Rn_Storage 24 Rn_Storage "records" "[LEpochStore$Entry;", .fieldLink Rn_Storage 28 Rn_Storage "ownKeys" "I", .methodLink Rn_Writes 3 objectInit, .fieldLink Rn_Writes 9 Rn_Writes "values" "[I", .methodLink Rn_Client 3 objectInit, .fieldLink Rn_Client 9 Rn_Client "knownEpoch" "I", .fieldLink Rn_Client 15 Rn_Client "state" "I", .fieldLink Rn_Client 18 Rn_Client "epoch" "I", .classLink Rn_Client 21 Rn_Writes, .instantiable Rn_Writes 2, .initialized Rn_Writes, .code y_Writes_init b_Writes_init 1 none, .instanceMethod y_Writes_init, .fieldLink Rn_Client 24 Rn_Client "writes" "LEpochStore$Writes;", .fieldLink Rn_Client 28 Rn_Client "number" "I", .methodLink Rn_Master 3 objectInit, .fieldLink Rn_Master 9 Rn_Master "latestWrite" "[I", .classLink Rn_Master 15 Rn_Question, .fieldLink Rn_Master 17 Rn_Master "questions" "[LEpochStore$Question;", .classLink Rn_Master 21 Rn_OnWay, .fieldLink Rn_Master 23 Rn_Master "onWay" "[LEpochStore$OnWay;", .fieldLink Rn_Master 27 Rn_Master "epoch" "I", .fieldLink Rn_Master 31 Rn_Master "members" "I", .fieldLink Rn_Master 34 Rn_Master "start" "I", .fieldLink Rn_Master 37 Rn_Master "last" "I", .fieldLink Rn_Master 40 Rn_Master "pushed" "I", .fieldLink Rn_Master 43 Rn_Master "committed" "I", .methodLink Rn_ES 1 objectInit, .classLink Rn_ES 9 Rn_Coordinator, .fieldLink Rn_ES 11 Rn_ES "coordinators" "[LEpochStore$Coordinator;", .classLink Rn_ES 15 Rn_Log, .fieldLink Rn_ES 17 Rn_ES "logs" "[LEpochStore$Log;", .classLink Rn_ES 21 Rn_Storage, .fieldLink Rn_ES 23 Rn_ES "storages" "[LEpochStore$Storage;", .classLink Rn_ES 27 Rn_Client, .fieldLink Rn_ES 29 Rn_ES "clients" "[LEpochStore$Client;", .classLink Rn_ES 33 Rn_Master, .fieldLink Rn_ES 35 Rn_ES "masters" "[LEpochStore$Master;", .classLink Rn_ES 39 Rn_Line, .instantiable Rn_Line 3, .initialized Rn_Line, .methodLink Rn_ES 41 y_Line_init, .code y_Line_init b_Line_init 2 none, .instanceMethod y_Line_init, .fieldLink Rn_ES 42 Rn_ES "line" "LEpochStore$Line;", .instantiable Rn_Coordinator 2, .initialized Rn_Coordinator, .code y_Coordinator_init b_Coordinator_init 1 none, .instanceMethod y_Coordinator_init, .instantiable Rn_Log 7, .initialized Rn_Log, .methodLink Rn_ES 47 y_Log_init]
def w_all_1 : List Cond := [.code y_Log_init b_Log_init 2 none, .instanceMethod y_Log_init, .instantiable Rn_Storage 6, .initialized Rn_Storage, .methodLink Rn_ES 50 y_Storage_init, .code y_Storage_init b_Storage_init 2 none, .instanceMethod y_Storage_init, .instantiable Rn_Client 9, .initialized Rn_Client, .methodLink Rn_ES 51 y_Client_init, .code y_Client_init b_Client_init 2 none, .instanceMethod y_Client_init, .instantiable Rn_Master 12, .initialized Rn_Master, .methodLink Rn_ES 52 y_Master_init, .code y_Master_init b_Master_init 5 none, .instanceMethod y_Master_init, .fieldLink Rn_ES 205 Rn_Coordinator "up" "Z", .fieldLink Rn_ES 220 Rn_Coordinator "epoch" "I", .methodLink Rn_ES 221 Lib.Math.max.name, .static Lib.Math.max.name, .initialized "java/lang/Math", .code Lib.Math.max.name Lib.Math.max.code 2 (some .int), .methodLink Rn_ES 55 y_ES_epochOfMajority, .instanceMethod y_ES_epochOfMajority, .selects Rn_ES y_ES_epochOfMajority y_ES_epochOfMajority, .initialized Rn_ES, .code y_ES_epochOfMajority b_ES_epochOfMajority 4 (some .int), .methodLink Rn_ES 59 y_ES_isClient, .static y_ES_isClient, .code y_ES_isClient b_ES_isClient 1 (some .boolean), .fieldLink Rn_ES 63 Rn_Client "knownEpoch" "I", .fieldLink Rn_Message 7 Rn_Message "type" "I", .fieldLink Rn_Message 13 Rn_Message "number" "I", .fieldLink Rn_Message 16 Rn_Message "epoch" "I", .fieldLink Rn_Message 19 Rn_Message "version" "I", .fieldLink Rn_Message 22 Rn_Message "transaction" "I", .fieldLink Rn_Message 25 Rn_Message "question" "I", .fieldLink Rn_Message 28 Rn_Message "result" "I", .fieldLink Rn_Message 31 Rn_Message "noted" "I", .fieldLink Rn_Message 34 Rn_Message "writes" "LEpochStore$Writes;", .fieldLink Rn_Message 38 Rn_Message "entry" "LEpochStore$Entry;", .fieldLink Rn_Line 22 Rn_Line "count" "I", .methodLink Rn_Line 26 y_Message_reset, .instanceMethod y_Message_reset, .selects Rn_Message y_Message_reset y_Message_reset, .code y_Message_reset b_Message_reset 4 none, .fieldLink Rn_Client 38 Rn_Client "transaction" "I", .fieldLink Rn_Client 31 Rn_Client "readVersion" "I", .fieldLink Rn_Client 35 Rn_Client "commitVersion" "I", .fieldLink Rn_Client 41 Rn_Client "noted" "I", .methodLink Rn_Client 44 y_Line_send, .instanceMethod y_Line_send, .selects Rn_Line y_Line_send y_Line_send, .code y_Line_send b_Line_send 5 (some (.object "EpochStore$Message")), .fieldLink Rn_Client 50 Rn_Message "transaction" "I", .methodLink Rn_ES 67 y_Client_isBusy, .instanceMethod y_Client_isBusy, .selects Rn_Client y_Client_isBusy y_Client_isBusy, .code y_Client_isBusy b_Client_isBusy 1 (some .boolean), .methodLink Rn_ES 71 y_Client_ask, .instanceMethod y_Client_ask, .selects Rn_Client y_Client_ask y_Client_ask, .code y_Client_ask b_Client_ask 2 none, .fieldLink Rn_ES 202 Rn_Client "state" "I", .fieldLink Rn_Writes 15 Rn_Writes "keys" "I", .constantLong Rn_Storage 81 (1099511627777), .fieldLink Rn_Storage 31 Rn_Storage "count" "I", .constantLong Rn_Storage 83 (1099511627778), .constantLong Rn_Storage 79 (1099511627776), .fieldLink Rn_Storage 55 Rn_Entry "version" "I", .fieldLink Rn_Storage 70 Rn_Entry "writes" "LEpochStore$Writes;", .methodLink Rn_Storage 85 y_Writes_has, .instanceMethod y_Writes_has, .selects Rn_Writes y_Writes_has y_Writes_has, .code y_Writes_has b_Writes_has 2 (some .boolean), .fieldLink Rn_Storage 89 Rn_Writes "values" "[I", .fieldLink Rn_ES 94 Rn_Client "writes" "LEpochStore$Writes;", .methodLink Rn_ES 207 y_Writes_has, .fieldLink Rn_ES 212 Rn_Client "readVersion" "I"]
def w_all_2 : List Cond := [.fieldLink Rn_ES 215 Rn_Client "epoch" "I", .methodLink Rn_ES 216 y_Storage_valueAt, .instanceMethod y_Storage_valueAt, .selects Rn_Storage y_Storage_valueAt y_Storage_valueAt, .code y_Storage_valueAt b_Storage_valueAt 5 (some .long), .fieldLink Rn_ES 208 Rn_Writes "values" "[I", .constantLong Rn_ES 200 (1099511627776), .methodLink Rn_Client 53 y_Writes_has, .methodLink Rn_ES 75 y_ES_isOpen, .instanceMethod y_ES_isOpen, .selects Rn_ES y_ES_isOpen y_ES_isOpen, .code y_ES_isOpen b_ES_isOpen 2 (some .boolean), .constantLong Rn_ES 81 (-1), .methodLink Rn_ES 78 y_ES_isKey, .static y_ES_isKey, .code y_ES_isKey b_ES_isKey 1 (some .boolean), .methodLink Rn_ES 83 y_ES_valueFor, .instanceMethod y_ES_valueFor, .selects Rn_ES y_ES_valueFor y_ES_valueFor, .code y_ES_valueFor b_ES_valueFor 3 (some .long), .methodLink Rn_ES 87 y_ES_isValue, .static y_ES_isValue, .code y_ES_isValue b_ES_isValue 2 (some .boolean), .methodLink Rn_ES 91 y_Client_noteUnwritten, .instanceMethod y_Client_noteUnwritten, .selects Rn_Client y_Client_noteUnwritten y_Client_noteUnwritten, .code y_Client_noteUnwritten b_Client_noteUnwritten 2 none, .methodLink Rn_ES 98 y_Writes_put, .instanceMethod y_Writes_put, .selects Rn_Writes y_Writes_put y_Writes_put, .code y_Writes_put b_Writes_put 3 none, .fieldLink Rn_Client 57 Rn_Writes "keys" "I", .fieldLink Rn_Client 60 Rn_Message "version" "I", .fieldLink Rn_Client 63 Rn_Message "noted" "I", .fieldLink Rn_Client 64 Rn_Message "writes" "LEpochStore$Writes;", .methodLink Rn_ES 104 y_Client_finish, .instanceMethod y_Client_finish, .selects Rn_Client y_Client_finish y_Client_finish, .code y_Client_finish b_Client_finish 3 none, .methodLink Rn_ES 107 y_Client_drop, .instanceMethod y_Client_drop, .selects Rn_Client y_Client_drop y_Client_drop, .code y_Client_drop b_Client_drop 1 none, .constant Rn_Client 34 (65536), .methodLink Rn_ES 110 y_Client_code, .instanceMethod y_Client_code, .selects Rn_Client y_Client_code y_Client_code, .code y_Client_code b_Client_code 1 (some .int), .fieldLink Rn_ES 113 Rn_Line "count" "I", .constant Rn_Message 42 (65536), .methodLink Rn_ES 116 y_Line_has, .instanceMethod y_Line_has, .selects Rn_Line y_Line_has y_Line_has, .code y_Line_has b_Line_has 2 (some .boolean), .fieldLink Rn_ES 119 Rn_Line "rows" "[LEpochStore$Message;", .methodLink Rn_ES 123 y_Message_code, .instanceMethod y_Message_code, .selects Rn_Message y_Message_code y_Message_code, .code y_Message_code b_Message_code 1 (some .int), .fieldLink Rn_Log 65 Rn_Entry "before" "I", .fieldLink Rn_Log 35 Rn_Log "count" "I", .fieldLink Rn_Log 68 Rn_Entry "version" "I", .fieldLink Rn_Log 39 Rn_Message "epoch" "I", .fieldLink Rn_Log 42 Rn_Message "type" "I", .fieldLink Rn_Log 54 Rn_Message "entry" "LEpochStore$Entry;", .methodLink Rn_Log 58 y_Log_takeRecord, .instanceMethod y_Log_takeRecord, .selects Rn_Log y_Log_takeRecord y_Log_takeRecord, .code y_Log_takeRecord b_Log_takeRecord 2 (some .boolean), .methodLink Rn_Log 45 y_Line_send, .fieldLink Rn_Log 62 Rn_Message "version" "I", .fieldLink Rn_Log 51 Rn_Message "question" "I", .fieldLink Rn_Client 65 Rn_Message "type" "I", .fieldLink Rn_Client 68 Rn_Message "result" "I", .methodLink Rn_Question 1 objectInit, .fieldLink Rn_Question 7 Rn_Question "number" "I", .fieldLink Rn_Question 13 Rn_Question "client" "I", .fieldLink Rn_Question 16 Rn_Question "transaction" "I", .fieldLink Rn_Master 46 Rn_Master "questionCount" "I", .fieldLink Rn_Master 79 Rn_Master "questionsEver" "I"]
def w_all_3 : List Cond := [.instantiable Rn_Question 4, .initialized Rn_Question, .fieldLink Rn_Master 82 Rn_Message "number" "I", .fieldLink Rn_Master 85 Rn_Message "transaction" "I", .methodLink Rn_Master 88 y_Question_init, .code y_Question_init b_Question_init 4 none, .instanceMethod y_Question_init, .methodLink Rn_Master 91 y_Line_send, .fieldLink Rn_Master 97 Rn_Message "question" "I", .fieldLink Rn_Master 115 Rn_Question "number" "I", .fieldLink Rn_Master 116 Rn_Question "client" "I", .fieldLink Rn_Master 119 Rn_Question "transaction" "I", .fieldLink Rn_Master 120 Rn_Message "version" "I", .methodLink Rn_Master 100 y_Master_placeOfQuestion, .instanceMethod y_Master_placeOfQuestion, .selects Rn_Master y_Master_placeOfQuestion y_Master_placeOfQuestion, .code y_Master_placeOfQuestion b_Master_placeOfQuestion 3 (some .int), .fieldLink Rn_Master 104 Rn_Question "confirmed" "I", .methodLink Rn_Master 107 y_Master_answer, .instanceMethod y_Master_answer, .selects Rn_Master y_Master_answer y_Master_answer, .code y_Master_answer b_Master_answer 4 none, .methodLink Rn_Master 111 y_Master_removeQuestion, .instanceMethod y_Master_removeQuestion, .selects Rn_Master y_Master_removeQuestion y_Master_removeQuestion, .code y_Master_removeQuestion b_Master_removeQuestion 3 none, .fieldLink Rn_Master 177 Rn_Message "result" "I", .fieldLink Rn_Master 146 Rn_Message "noted" "I", .methodLink Rn_Master 149 y_Writes_has, .methodLink Rn_Master 134 y_Master_findsConflict, .instanceMethod y_Master_findsConflict, .selects Rn_Master y_Master_findsConflict y_Master_findsConflict, .code y_Master_findsConflict b_Master_findsConflict 4 (some .boolean), .fieldLink Rn_Master 138 Rn_Message "writes" "LEpochStore$Writes;", .methodLink Rn_Master 142 y_Master_letPass, .instanceMethod y_Master_letPass, .selects Rn_Master y_Master_letPass y_Master_letPass, .code y_Master_letPass b_Master_letPass 4 none, .methodLink Rn_Entry 1 objectInit, .fieldLink Rn_Entry 7 Rn_Entry "version" "I", .fieldLink Rn_Entry 13 Rn_Entry "before" "I", .fieldLink Rn_Entry 16 Rn_Entry "writes" "LEpochStore$Writes;", .methodLink Rn_OnWay 1 objectInit, .fieldLink Rn_OnWay 7 Rn_OnWay "entry" "LEpochStore$Entry;", .fieldLink Rn_OnWay 13 Rn_OnWay "client" "I", .fieldLink Rn_OnWay 17 Rn_OnWay "transaction" "I", .fieldLink Rn_Master 163 Rn_OnWay "acknowledged" "I", .fieldLink Rn_Master 166 Rn_OnWay "entry" "LEpochStore$Entry;", .fieldLink Rn_Master 170 Rn_Entry "version" "I", .fieldLink Rn_Master 171 Rn_Message "entry" "LEpochStore$Entry;", .instantiable Rn_OnWay 4, .initialized Rn_OnWay, .classLink Rn_Master 155 Rn_Entry, .instantiable Rn_Entry 3, .initialized Rn_Entry, .methodLink Rn_Master 157 y_Entry_init, .code y_Entry_init b_Entry_init 4 none, .instanceMethod y_Entry_init, .methodLink Rn_Master 160 y_OnWay_init, .code y_OnWay_init b_OnWay_init 4 none, .instanceMethod y_OnWay_init, .fieldLink Rn_Master 49 Rn_Master "onWayCount" "I", .methodLink Rn_Master 75 y_Master_pushToOthers, .instanceMethod y_Master_pushToOthers, .selects Rn_Master y_Master_pushToOthers y_Master_pushToOthers, .code y_Master_pushToOthers b_Master_pushToOthers 6 (some .int), .methodLink Rn_Master 127 y_Master_passesResolvers, .instanceMethod y_Master_passesResolvers, .selects Rn_Master y_Master_passesResolvers y_Master_passesResolvers, .code y_Master_passesResolvers b_Master_passesResolvers 4 (some .boolean), .methodLink Rn_Master 123 y_Master_sendResult, .instanceMethod y_Master_sendResult, .selects Rn_Master y_Master_sendResult y_Master_sendResult, .code y_Master_sendResult b_Master_sendResult 6 (some (.object "EpochStore$Message")), .methodLink Rn_Master 131 y_Master_putOnWay, .instanceMethod y_Master_putOnWay, .selects Rn_Master y_Master_putOnWay y_Master_putOnWay, .code y_Master_putOnWay b_Master_putOnWay 4 none, .fieldLink Rn_Master 172 Rn_OnWay "client" "I", .fieldLink Rn_Master 173 Rn_OnWay "transaction" "I"]
def w_all_4 : List Cond := [.methodLink Rn_Master 174 y_Master_removeOldestOnWay, .instanceMethod y_Master_removeOldestOnWay, .selects Rn_Master y_Master_removeOldestOnWay y_Master_removeOldestOnWay, .code y_Master_removeOldestOnWay b_Master_removeOldestOnWay 3 none, .fieldLink Rn_Master 52 Rn_Message "type" "I", .methodLink Rn_Master 57 y_Master_openQuestion, .instanceMethod y_Master_openQuestion, .selects Rn_Master y_Master_openQuestion y_Master_openQuestion, .code y_Master_openQuestion b_Master_openQuestion 4 none, .methodLink Rn_Master 67 y_Master_takeAcknowledgement, .instanceMethod y_Master_takeAcknowledgement, .selects Rn_Master y_Master_takeAcknowledgement y_Master_takeAcknowledgement, .code y_Master_takeAcknowledgement b_Master_takeAcknowledgement 3 none, .methodLink Rn_Master 71 y_Master_settle, .instanceMethod y_Master_settle, .selects Rn_Master y_Master_settle y_Master_settle, .code y_Master_settle b_Master_settle 4 none, .methodLink Rn_Master 61 y_Master_takeConfirmation, .instanceMethod y_Master_takeConfirmation, .selects Rn_Master y_Master_takeConfirmation y_Master_takeConfirmation, .code y_Master_takeConfirmation b_Master_takeConfirmation 4 none, .methodLink Rn_Master 64 y_Master_decide, .instanceMethod y_Master_decide, .selects Rn_Master y_Master_decide y_Master_decide, .code y_Master_decide b_Master_decide 3 none, .methodLink Rn_ES 126 y_Line_take, .instanceMethod y_Line_take, .selects Rn_Line y_Line_take y_Line_take, .code y_Line_take b_Line_take 4 (some (.object "EpochStore$Message")), .fieldLink Rn_ES 130 Rn_Message "type" "I", .fieldLink Rn_ES 133 Rn_Message "number" "I", .methodLink Rn_ES 136 y_Log_receive, .instanceMethod y_Log_receive, .selects Rn_Log y_Log_receive y_Log_receive, .code y_Log_receive b_Log_receive 3 none, .fieldLink Rn_ES 143 Rn_Message "epoch" "I", .methodLink Rn_ES 146 y_ES_isMaster, .instanceMethod y_ES_isMaster, .selects Rn_ES y_ES_isMaster y_ES_isMaster, .code y_ES_isMaster b_ES_isMaster 2 (some .boolean), .methodLink Rn_ES 149 y_Master_receive, .instanceMethod y_Master_receive, .selects Rn_Master y_Master_receive y_Master_receive, .code y_Master_receive b_Master_receive 3 none, .methodLink Rn_ES 140 y_Client_receive, .instanceMethod y_Client_receive, .selects Rn_Client y_Client_receive y_Client_receive, .code y_Client_receive b_Client_receive 2 none, .methodLink Rn_ES 196 y_ES_isCoordinator, .static y_ES_isCoordinator, .code y_ES_isCoordinator b_ES_isCoordinator 1 (some .boolean), .methodLink Rn_ES 167 y_ES_isLog, .static y_ES_isLog, .code y_ES_isLog b_ES_isLog 1 (some .boolean), .methodLink Rn_ES 164 y_ES_isStorage, .static y_ES_isStorage, .code y_ES_isStorage b_ES_isStorage 1 (some .boolean), .fieldLink Rn_ES 178 Rn_Log "up" "Z", .fieldLink Rn_ES 206 Rn_Storage "up" "Z", .methodLink Rn_ES 153 y_ES_isServer, .static y_ES_isServer, .code y_ES_isServer b_ES_isServer 2 (some .boolean), .methodLink Rn_ES 157 y_ES_isUp, .instanceMethod y_ES_isUp, .selects Rn_ES y_ES_isUp y_ES_isUp, .code y_ES_isUp b_ES_isUp 3 (some .boolean), .methodLink Rn_ES 160 y_ES_setUp, .instanceMethod y_ES_setUp, .selects Rn_ES y_ES_setUp y_ES_setUp, .code y_ES_setUp b_ES_setUp 4 none, .methodLink Rn_ES 150 y_ES_stopMaster, .instanceMethod y_ES_stopMaster, .selects Rn_ES y_ES_stopMaster y_ES_stopMaster, .code y_ES_stopMaster b_ES_stopMaster 2 (some .boolean), .methodLink Rn_Storage 67 Lib.Math.min.name, .static Lib.Math.min.name, .code Lib.Math.min.name Lib.Math.min.code 2 (some .int), .fieldLink Rn_Storage 74 Rn_Writes "keys" "I", .fieldLink Rn_Storage 35 Rn_Log "up" "Z", .fieldLink Rn_Storage 38 Rn_Log "epoch" "I"]
def w_all_5 : List Cond := [.fieldLink Rn_Storage 39 Rn_Log "bases" "[I", .methodLink Rn_Storage 43 y_Storage_goBackTo, .instanceMethod y_Storage_goBackTo, .selects Rn_Storage y_Storage_goBackTo y_Storage_goBackTo, .code y_Storage_goBackTo b_Storage_goBackTo 2 none, .methodLink Rn_Storage 47 y_Log_firstAbove, .instanceMethod y_Log_firstAbove, .selects Rn_Log y_Log_firstAbove y_Log_firstAbove, .code y_Log_firstAbove b_Log_firstAbove 3 (some (.object "EpochStore$Entry")), .fieldLink Rn_Storage 58 Rn_Log "end" "I", .methodLink Rn_Storage 61 Lib.Math.max.name, .methodLink Rn_Storage 51 y_Storage_keep, .instanceMethod y_Storage_keep, .selects Rn_Storage y_Storage_keep y_Storage_keep, .code y_Storage_keep b_Storage_keep 2 none, .methodLink Rn_ES 170 y_Storage_advanceFrom, .instanceMethod y_Storage_advanceFrom, .selects Rn_Storage y_Storage_advanceFrom y_Storage_advanceFrom, .code y_Storage_advanceFrom b_Storage_advanceFrom 3 (some .int), .methodLink Rn_ES 174 y_Master_pushAgain, .instanceMethod y_Master_pushAgain, .selects Rn_Master y_Master_pushAgain y_Master_pushAgain, .code y_Master_pushAgain b_Master_pushAgain 4 (some .int), .fieldLink Rn_ES 227 Rn_Log "end" "I", .methodLink Rn_ES 230 y_Log_copyFrom, .instanceMethod y_Log_copyFrom, .selects Rn_Log y_Log_copyFrom y_Log_copyFrom, .code y_Log_copyFrom b_Log_copyFrom 3 none, .methodLink Rn_ES 234 y_Log_enter, .instanceMethod y_Log_enter, .selects Rn_Log y_Log_enter y_Log_enter, .code y_Log_enter b_Log_enter 4 none, .fieldLink Rn_ES 182 Rn_Log "epoch" "I", .methodLink Rn_ES 183 y_ES_raiseCoordinators, .instanceMethod y_ES_raiseCoordinators, .selects Rn_ES y_ES_raiseCoordinators y_ES_raiseCoordinators, .code y_ES_raiseCoordinators b_ES_raiseCoordinators 3 none, .methodLink Rn_ES 186 y_ES_beginEpoch, .instanceMethod y_ES_beginEpoch, .selects Rn_ES y_ES_beginEpoch y_ES_beginEpoch, .code y_ES_beginEpoch b_ES_beginEpoch 7 none, .constant Rn_Log 38 (1073741824), .methodLink Rn_ES 190 y_Log_code, .instanceMethod y_Log_code, .selects Rn_Log y_Log_code y_Log_code, .code y_Log_code b_Log_code 1 (some .int), .constant Rn_Storage 34 (1073741824), .methodLink Rn_ES 191 y_Storage_code, .instanceMethod y_Storage_code, .selects Rn_Storage y_Storage_code y_Storage_code, .code y_Storage_code b_Storage_code 1 (some .int), .methodLink Rn_ES 192 y_Master_code, .instanceMethod y_Master_code, .selects Rn_Master y_Master_code y_Master_code, .code y_Master_code b_Master_code 1 (some .int), .fieldLink Rn_ES 193 Rn_Master "committed" "I", .methodLink Rn_ES 199 y_Coordinator_code, .instanceMethod y_Coordinator_code, .selects Rn_Coordinator y_Coordinator_code y_Coordinator_code, .code y_Coordinator_code b_Coordinator_code 1 (some .int), .methodLink Rn_EM 1 objectInit, .fieldLink Rn_EM 7 Rn_EM "known" "[I", .arrayClass .boolean, .fieldLink Rn_EM 13 Rn_EM "coordinatorUp" "[Z", .fieldLink Rn_EM 17 Rn_EM "logEpoch" "[I", .fieldLink Rn_EM 20 Rn_EM "logUp" "[Z", .fieldLink Rn_EM 23 Rn_EM "logEnd" "[I", .fieldLink Rn_EM 26 Rn_EM "logMany" "[I", .fieldLink Rn_EM 29 Rn_EM "logVersion" "[I", .fieldLink Rn_EM 32 Rn_EM "logMask" "[I", .fieldLink Rn_EM 35 Rn_EM "logValue" "[I", .fieldLink Rn_EM 38 Rn_EM "base" "[I", .fieldLink Rn_EM 41 Rn_EM "storeEpoch" "[I", .fieldLink Rn_EM 44 Rn_EM "storeUp" "[Z", .fieldLink Rn_EM 47 Rn_EM "storeAt" "[I", .fieldLink Rn_EM 50 Rn_EM "storeMany" "[I", .fieldLink Rn_EM 53 Rn_EM "storeVersion" "[I", .fieldLink Rn_EM 56 Rn_EM "storeMask" "[I", .fieldLink Rn_EM 59 Rn_EM "storeValue" "[I", .fieldLink Rn_EM 62 Rn_EM "there" "[Z"]
def w_all_6 : List Cond := [.fieldLink Rn_EM 65 Rn_EM "logsOf" "[I", .fieldLink Rn_EM 68 Rn_EM "startOf" "[I", .fieldLink Rn_EM 71 Rn_EM "lastOf" "[I", .fieldLink Rn_EM 74 Rn_EM "pushedOf" "[I", .fieldLink Rn_EM 77 Rn_EM "doneOf" "[I", .fieldLink Rn_EM 80 Rn_EM "latest" "[I", .fieldLink Rn_EM 83 Rn_EM "asked" "[I", .fieldLink Rn_EM 86 Rn_EM "questions" "[I", .fieldLink Rn_EM 89 Rn_EM "questionNumber" "[I", .fieldLink Rn_EM 92 Rn_EM "questionClient" "[I", .fieldLink Rn_EM 95 Rn_EM "questionTurn" "[I", .fieldLink Rn_EM 98 Rn_EM "questionHas" "[I", .fieldLink Rn_EM 101 Rn_EM "ways" "[I", .fieldLink Rn_EM 104 Rn_EM "wayVersion" "[I", .fieldLink Rn_EM 107 Rn_EM "wayBefore" "[I", .fieldLink Rn_EM 110 Rn_EM "wayMask" "[I", .fieldLink Rn_EM 113 Rn_EM "wayValue" "[I", .fieldLink Rn_EM 116 Rn_EM "wayHas" "[I", .fieldLink Rn_EM 119 Rn_EM "wayClient" "[I", .fieldLink Rn_EM 122 Rn_EM "wayTurn" "[I", .fieldLink Rn_EM 125 Rn_EM "clientEpoch" "[I", .fieldLink Rn_EM 128 Rn_EM "turn" "[I", .fieldLink Rn_EM 131 Rn_EM "state" "[I", .fieldLink Rn_EM 134 Rn_EM "readAt" "[I", .fieldLink Rn_EM 137 Rn_EM "begunAt" "[I", .fieldLink Rn_EM 140 Rn_EM "noted" "[I", .fieldLink Rn_EM 143 Rn_EM "written" "[I", .fieldLink Rn_EM 146 Rn_EM "value" "[I", .fieldLink Rn_EM 149 Rn_EM "won" "[I", .fieldLink Rn_EM 152 Rn_EM "type" "[I", .fieldLink Rn_EM 155 Rn_EM "who" "[I", .fieldLink Rn_EM 158 Rn_EM "epoch" "[I", .fieldLink Rn_EM 161 Rn_EM "version" "[I", .fieldLink Rn_EM 164 Rn_EM "number" "[I", .fieldLink Rn_EM 167 Rn_EM "other" "[I", .fieldLink Rn_EM 170 Rn_EM "mask" "[I", .fieldLink Rn_EM 173 Rn_EM "content" "[I", .fieldLink Rn_EM 176 Rn_EM "lines" "I", .methodLink Rn_EM 180 y_EM_copyMessage, .instanceMethod y_EM_copyMessage, .selects Rn_EM y_EM_copyMessage y_EM_copyMessage, .initialized Rn_EM, .code y_EM_copyMessage b_EM_copyMessage 4 none, .constant Rn_EM 184 (65536), .methodLink Rn_EM 185 y_EM_take, .instanceMethod y_EM_take, .selects Rn_EM y_EM_take y_EM_take, .code y_EM_take b_EM_take 3 none, .methodLink Rn_EM 193 y_EM_send, .instanceMethod y_EM_send, .selects Rn_EM y_EM_send y_EM_send, .code y_EM_send b_EM_send 7 (some .int), .methodLink Rn_EM 220 y_EM_finds, .instanceMethod y_EM_finds, .selects Rn_EM y_EM_finds y_EM_finds, .code y_EM_finds b_EM_finds 6 (some .boolean), .methodLink Rn_EM 224 y_EM_pushOut, .instanceMethod y_EM_pushOut, .selects Rn_EM y_EM_pushOut y_EM_pushOut, .code y_EM_pushOut b_EM_pushOut 7 (some .int), .methodLink Rn_EM 217 y_EM_result, .instanceMethod y_EM_result, .selects Rn_EM y_EM_result y_EM_result, .code y_EM_result b_EM_result 7 none, .methodLink Rn_EM 228 y_EM_copyWay, .instanceMethod y_EM_copyWay, .selects Rn_EM y_EM_copyWay y_EM_copyWay, .code y_EM_copyWay b_EM_copyWay 3 none, .methodLink Rn_EM 214 y_EM_acknowledged, .instanceMethod y_EM_acknowledged, .selects Rn_EM y_EM_acknowledged y_EM_acknowledged, .code y_EM_acknowledged b_EM_acknowledged 7 none, .methodLink Rn_EM 210 y_EM_judge, .instanceMethod y_EM_judge, .selects Rn_EM y_EM_judge y_EM_judge, .code y_EM_judge b_EM_judge 9 none, .methodLink Rn_EM 207 y_EM_confirmed, .instanceMethod y_EM_confirmed, .selects Rn_EM y_EM_confirmed y_EM_confirmed, .code y_EM_confirmed b_EM_confirmed 6 none]
def w_all_7 : List Cond := [.methodLink Rn_EM 204 y_EM_ask, .instanceMethod y_EM_ask, .selects Rn_EM y_EM_ask y_EM_ask, .code y_EM_ask b_EM_ask 6 none, .methodLink Rn_EM 200 y_EM_toMaster, .instanceMethod y_EM_toMaster, .selects Rn_EM y_EM_toMaster y_EM_toMaster, .code y_EM_toMaster b_EM_toMaster 6 none, .methodLink Rn_EM 197 y_EM_pushed, .instanceMethod y_EM_pushed, .selects Rn_EM y_EM_pushed y_EM_pushed, .code y_EM_pushed b_EM_pushed 6 none, .methodLink Rn_EM 189 y_EM_hand, .instanceMethod y_EM_hand, .selects Rn_EM y_EM_hand y_EM_hand, .code y_EM_hand b_EM_hand 6 none, .methodLink Rn_EM 231 y_EM_isMaster, .instanceMethod y_EM_isMaster, .selects Rn_EM y_EM_isMaster y_EM_isMaster, .code y_EM_isMaster b_EM_isMaster 2 (some .boolean), .methodLink Rn_EM 235 y_EM_isClient, .static y_EM_isClient, .code y_EM_isClient b_EM_isClient 1 (some .boolean), .methodLink Rn_EM 238 y_EM_coordinatorsUp, .instanceMethod y_EM_coordinatorsUp, .selects Rn_EM y_EM_coordinatorsUp y_EM_coordinatorsUp, .code y_EM_coordinatorsUp b_EM_coordinatorsUp 3 (some .int), .methodLink Rn_EM 242 y_EM_greatest, .instanceMethod y_EM_greatest, .selects Rn_EM y_EM_greatest y_EM_greatest, .code y_EM_greatest b_EM_greatest 3 (some .int), .constantLong Rn_EM 247 (1099511627777), .constantLong Rn_EM 249 (1099511627778), .constantLong Rn_EM 245 (1099511627776), .methodLink Rn_EM 251 y_EM_isOpen, .instanceMethod y_EM_isOpen, .selects Rn_EM y_EM_isOpen y_EM_isOpen, .code y_EM_isOpen b_EM_isOpen 2 (some .boolean), .constantLong Rn_EM 254 (-1), .methodLink Rn_EM 256 y_EM_wrote, .instanceMethod y_EM_wrote, .selects Rn_EM y_EM_wrote y_EM_wrote, .code y_EM_wrote b_EM_wrote 3 (some .boolean), .methodLink Rn_EM 260 y_EM_reading, .instanceMethod y_EM_reading, .selects Rn_EM y_EM_reading y_EM_reading, .code y_EM_reading b_EM_reading 7 (some .long), .methodLink Rn_EM 264 y_EM_join, .instanceMethod y_EM_join, .selects Rn_EM y_EM_join y_EM_join, .code y_EM_join b_EM_join 4 none, .methodLink Rn_EM 267 y_EM_keep, .instanceMethod y_EM_keep, .selects Rn_EM y_EM_keep y_EM_keep, .code y_EM_keep b_EM_keep 6 none, .methodLink Rn_EM 270 y_EM_copyLog, .instanceMethod y_EM_copyLog, .selects Rn_EM y_EM_copyLog y_EM_copyLog, .code y_EM_copyLog b_EM_copyLog 5 none, .methodLink Rn_EM 273 y_EM_turned, .instanceMethod y_EM_turned, .selects Rn_EM y_EM_turned y_EM_turned, .code y_EM_turned b_EM_turned 5 (some .boolean), .constant Rn_EM 277 (1073741824), .laysFinal Rn_ES Rn_ES "coordinators" "[LEpochStore$Coordinator;", .laysFinal Rn_ES Rn_ES "logs" "[LEpochStore$Log;", .laysFinal Rn_ES Rn_ES "storages" "[LEpochStore$Storage;", .laysFinal Rn_ES Rn_ES "clients" "[LEpochStore$Client;", .laysFinal Rn_ES Rn_ES "masters" "[LEpochStore$Master;", .laysFinal Rn_ES Rn_ES "line" "LEpochStore$Line;", .instantiable Rn_ES 6, .lays Rn_Coordinator Rn_Coordinator "up" "Z", .lays Rn_Coordinator Rn_Coordinator "epoch" "I", .lays Rn_Writes Rn_Writes "keys" "I", .laysFinal Rn_Writes Rn_Writes "values" "[I", .laysFinal Rn_Entry Rn_Entry "version" "I", .laysFinal Rn_Entry Rn_Entry "before" "I", .laysFinal Rn_Entry Rn_Entry "writes" "LEpochStore$Writes;", .lays Rn_Message Rn_Message "type" "I", .lays Rn_Message Rn_Message "number" "I"]
def w_all_8 : List Cond := [.lays Rn_Message Rn_Message "epoch" "I", .lays Rn_Message Rn_Message "version" "I", .lays Rn_Message Rn_Message "transaction" "I", .lays Rn_Message Rn_Message "question" "I", .lays Rn_Message Rn_Message "result" "I", .lays Rn_Message Rn_Message "noted" "I", .lays Rn_Message Rn_Message "writes" "LEpochStore$Writes;", .lays Rn_Message Rn_Message "entry" "LEpochStore$Entry;", .laysFinal Rn_Line Rn_Line "rows" "[LEpochStore$Message;", .laysFinal Rn_Line Rn_Line "lost" "LEpochStore$Message;", .lays Rn_Line Rn_Line "count" "I", .laysFinal Rn_Question Rn_Question "number" "I", .laysFinal Rn_Question Rn_Question "client" "I", .laysFinal Rn_Question Rn_Question "transaction" "I", .lays Rn_Question Rn_Question "confirmed" "I", .laysFinal Rn_OnWay Rn_OnWay "entry" "LEpochStore$Entry;", .laysFinal Rn_OnWay Rn_OnWay "client" "I", .laysFinal Rn_OnWay Rn_OnWay "transaction" "I", .lays Rn_OnWay Rn_OnWay "acknowledged" "I", .laysFinal Rn_Master Rn_Master "epoch" "I", .laysFinal Rn_Master Rn_Master "members" "I", .laysFinal Rn_Master Rn_Master "start" "I", .lays Rn_Master Rn_Master "last" "I", .lays Rn_Master Rn_Master "pushed" "I", .lays Rn_Master Rn_Master "committed" "I", .laysFinal Rn_Master Rn_Master "latestWrite" "[I", .laysFinal Rn_Master Rn_Master "questions" "[LEpochStore$Question;", .lays Rn_Master Rn_Master "questionCount" "I", .lays Rn_Master Rn_Master "questionsEver" "I", .laysFinal Rn_Master Rn_Master "onWay" "[LEpochStore$OnWay;", .lays Rn_Master Rn_Master "onWayCount" "I", .laysFinal Rn_Log Rn_Log "number" "I", .lays Rn_Log Rn_Log "up" "Z", .lays Rn_Log Rn_Log "epoch" "I", .lays Rn_Log Rn_Log "end" "I", .laysFinal Rn_Log Rn_Log "bases" "[I", .laysFinal Rn_Log Rn_Log "records" "[LEpochStore$Entry;", .lays Rn_Log Rn_Log "count" "I", .laysFinal Rn_Storage Rn_Storage "ownKeys" "I", .lays Rn_Storage Rn_Storage "up" "Z", .lays Rn_Storage Rn_Storage "epoch" "I", .lays Rn_Storage Rn_Storage "at" "I", .laysFinal Rn_Storage Rn_Storage "records" "[LEpochStore$Entry;", .lays Rn_Storage Rn_Storage "count" "I", .laysFinal Rn_Client Rn_Client "number" "I", .lays Rn_Client Rn_Client "knownEpoch" "I", .lays Rn_Client Rn_Client "transaction" "I", .lays Rn_Client Rn_Client "state" "I", .lays Rn_Client Rn_Client "epoch" "I", .lays Rn_Client Rn_Client "readVersion" "I", .lays Rn_Client Rn_Client "commitVersion" "I", .lays Rn_Client Rn_Client "noted" "I", .lays Rn_Client Rn_Client "writes" "LEpochStore$Writes;", .lays Rn_EM Rn_EM "known" "[I", .lays Rn_EM Rn_EM "coordinatorUp" "[Z", .lays Rn_EM Rn_EM "logEpoch" "[I", .lays Rn_EM Rn_EM "logUp" "[Z", .lays Rn_EM Rn_EM "logEnd" "[I", .lays Rn_EM Rn_EM "logMany" "[I", .lays Rn_EM Rn_EM "logVersion" "[I", .lays Rn_EM Rn_EM "logMask" "[I", .lays Rn_EM Rn_EM "logValue" "[I", .lays Rn_EM Rn_EM "base" "[I", .lays Rn_EM Rn_EM "storeEpoch" "[I", .lays Rn_EM Rn_EM "storeUp" "[Z", .lays Rn_EM Rn_EM "storeAt" "[I", .lays Rn_EM Rn_EM "storeMany" "[I", .lays Rn_EM Rn_EM "storeVersion" "[I", .lays Rn_EM Rn_EM "storeMask" "[I", .lays Rn_EM Rn_EM "storeValue" "[I", .lays Rn_EM Rn_EM "there" "[Z", .lays Rn_EM Rn_EM "logsOf" "[I", .lays Rn_EM Rn_EM "startOf" "[I", .lays Rn_EM Rn_EM "lastOf" "[I", .lays Rn_EM Rn_EM "pushedOf" "[I", .lays Rn_EM Rn_EM "doneOf" "[I", .lays Rn_EM Rn_EM "latest" "[I", .lays Rn_EM Rn_EM "asked" "[I", .lays Rn_EM Rn_EM "questions" "[I", .lays Rn_EM Rn_EM "questionNumber" "[I"]
def w_all_9 : List Cond := [.lays Rn_EM Rn_EM "questionClient" "[I", .lays Rn_EM Rn_EM "questionTurn" "[I", .lays Rn_EM Rn_EM "questionHas" "[I", .lays Rn_EM Rn_EM "ways" "[I", .lays Rn_EM Rn_EM "wayVersion" "[I", .lays Rn_EM Rn_EM "wayBefore" "[I", .lays Rn_EM Rn_EM "wayMask" "[I", .lays Rn_EM Rn_EM "wayValue" "[I", .lays Rn_EM Rn_EM "wayHas" "[I", .lays Rn_EM Rn_EM "wayClient" "[I", .lays Rn_EM Rn_EM "wayTurn" "[I", .lays Rn_EM Rn_EM "clientEpoch" "[I", .lays Rn_EM Rn_EM "turn" "[I", .lays Rn_EM Rn_EM "state" "[I", .lays Rn_EM Rn_EM "readAt" "[I", .lays Rn_EM Rn_EM "begunAt" "[I", .lays Rn_EM Rn_EM "noted" "[I", .lays Rn_EM Rn_EM "written" "[I", .lays Rn_EM Rn_EM "value" "[I", .lays Rn_EM Rn_EM "won" "[I", .lays Rn_EM Rn_EM "lines" "I", .lays Rn_EM Rn_EM "type" "[I", .lays Rn_EM Rn_EM "who" "[I", .lays Rn_EM Rn_EM "epoch" "[I", .lays Rn_EM Rn_EM "version" "[I", .lays Rn_EM Rn_EM "number" "[I", .lays Rn_EM Rn_EM "other" "[I", .lays Rn_EM Rn_EM "mask" "[I", .lays Rn_EM Rn_EM "content" "[I", .instantiable Rn_EM 56, .initialized Rn_Law]
def w_all : List Cond := w_all_0 ++ (w_all_1 ++ (w_all_2 ++ (w_all_3 ++ (w_all_4 ++ (w_all_5 ++ (w_all_6 ++ (w_all_7 ++ (w_all_8 ++ (w_all_9)))))))))
theorem wg_0 : w_all_0.all goodWord = true := by decide +kernel
theorem wi_0 {w : Cond} (h : w ∈ w_all_0) : w ∈ w_all := List.mem_append_left _ h
theorem wg_1 : w_all_1.all goodWord = true := by decide +kernel
theorem wi_1 {w : Cond} (h : w ∈ w_all_1) : w ∈ w_all := List.mem_append_right _ (List.mem_append_left _ h)
theorem wg_2 : w_all_2.all goodWord = true := by decide +kernel
theorem wi_2 {w : Cond} (h : w ∈ w_all_2) : w ∈ w_all := List.mem_append_right _ (List.mem_append_right _ (List.mem_append_left _ h))
theorem wg_3 : w_all_3.all goodWord = true := by decide +kernel
theorem wi_3 {w : Cond} (h : w ∈ w_all_3) : w ∈ w_all := List.mem_append_right _ (List.mem_append_right _ (List.mem_append_right _ (List.mem_append_left _ h)))
theorem wg_4 : w_all_4.all goodWord = true := by decide +kernel
theorem wi_4 {w : Cond} (h : w ∈ w_all_4) : w ∈ w_all := List.mem_append_right _ (List.mem_append_right _ (List.mem_append_right _ (List.mem_append_right _ (List.mem_append_left _ h))))
theorem wg_5 : w_all_5.all goodWord = true := by decide +kernel
theorem wi_5 {w : Cond} (h : w ∈ w_all_5) : w ∈ w_all := List.mem_append_right _ (List.mem_append_right _ (List.mem_append_right _ (List.mem_append_right _ (List.mem_append_right _ (List.mem_append_left _ h)))))
theorem wg_6 : w_all_6.all goodWord = true := by decide +kernel
theorem wi_6 {w : Cond} (h : w ∈ w_all_6) : w ∈ w_all := List.mem_append_right _ (List.mem_append_right _ (List.mem_append_right _ (List.mem_append_right _ (List.mem_append_right _ (List.mem_append_right _ (List.mem_append_left _ h))))))
theorem wg_7 : w_all_7.all goodWord = true := by decide +kernel
theorem wi_7 {w : Cond} (h : w ∈ w_all_7) : w ∈ w_all := List.mem_append_right _ (List.mem_append_right _ (List.mem_append_right _ (List.mem_append_right _ (List.mem_append_right _ (List.mem_append_right _ (List.mem_append_right _ (List.mem_append_left _ h)))))))
theorem wg_8 : w_all_8.all goodWord = true := by decide +kernel
theorem wi_8 {w : Cond} (h : w ∈ w_all_8) : w ∈ w_all := List.mem_append_right _ (List.mem_append_right _ (List.mem_append_right _ (List.mem_append_right _ (List.mem_append_right _ (List.mem_append_right _ (List.mem_append_right _ (List.mem_append_right _ (List.mem_append_left _ h))))))))
theorem wg_9 : w_all_9.all goodWord = true := by decide +kernel
theorem wi_9 {w : Cond} (h : w ∈ w_all_9) : w ∈ w_all := List.mem_append_right _ (List.mem_append_right _ (List.mem_append_right _ (List.mem_append_right _ (List.mem_append_right _ (List.mem_append_right _ (List.mem_append_right _ (List.mem_append_right _ (List.mem_append_right _ (h)))))))))
theorem w_good : ∀ w ∈ w_all, ((w.onTables && w.keeps) = true ∨ ∃ ty, w = .arrayClass ty) := by
  intro w h
  simp only [w_all, List.mem_append] at h
  rcases h with h | h | h | h | h | h | h | h | h | h
  · exact good_of_word (List.all_eq_true.mp wg_0 w h)
  · exact good_of_word (List.all_eq_true.mp wg_1 w h)
  · exact good_of_word (List.all_eq_true.mp wg_2 w h)
  · exact good_of_word (List.all_eq_true.mp wg_3 w h)
  · exact good_of_word (List.all_eq_true.mp wg_4 w h)
  · exact good_of_word (List.all_eq_true.mp wg_5 w h)
  · exact good_of_word (List.all_eq_true.mp wg_6 w h)
  · exact good_of_word (List.all_eq_true.mp wg_7 w h)
  · exact good_of_word (List.all_eq_true.mp wg_8 w h)
  · exact good_of_word (List.all_eq_true.mp wg_9 w h)
theorem m_0 : Cond.methodLink Rn_Message 1 objectInit ∈ w_all := wi_0 (List.mem_of_getElem? (i := 0) rfl)
theorem m_1 : Cond.instanceMethod objectInit ∈ w_all := wi_0 (List.mem_of_getElem? (i := 1) rfl)
theorem m_2 : Cond.code objectInit ⟨#[0xb1]⟩ 1 none ∈ w_all := wi_0 (List.mem_of_getElem? (i := 2) rfl)
theorem m_3 : Cond.methodLink Rn_Line 3 objectInit ∈ w_all := wi_0 (List.mem_of_getElem? (i := 3) rfl)
theorem m_4 : Cond.classLink Rn_Line 9 Rn_Message ∈ w_all := wi_0 (List.mem_of_getElem? (i := 4) rfl)
theorem m_5 : Cond.fieldLink Rn_Line 11 Rn_Line "rows" "[LEpochStore$Message;" ∈ w_all := wi_0 (List.mem_of_getElem? (i := 5) rfl)
theorem m_6 : Cond.instantiable Rn_Message 10 ∈ w_all := wi_0 (List.mem_of_getElem? (i := 6) rfl)
theorem m_7 : Cond.initialized Rn_Message ∈ w_all := wi_0 (List.mem_of_getElem? (i := 7) rfl)
theorem m_8 : Cond.code y_Message_init b_Message_init 1 none ∈ w_all := wi_0 (List.mem_of_getElem? (i := 8) rfl)
theorem m_9 : Cond.instanceMethod y_Message_init ∈ w_all := wi_0 (List.mem_of_getElem? (i := 9) rfl)
theorem m_10 : Cond.fieldLink Rn_Line 18 Rn_Line "lost" "LEpochStore$Message;" ∈ w_all := wi_0 (List.mem_of_getElem? (i := 10) rfl)
theorem m_11 : Cond.methodLink Rn_Coordinator 3 objectInit ∈ w_all := wi_0 (List.mem_of_getElem? (i := 11) rfl)
theorem m_12 : Cond.fieldLink Rn_Coordinator 9 Rn_Coordinator "up" "Z" ∈ w_all := wi_0 (List.mem_of_getElem? (i := 12) rfl)
theorem m_13 : Cond.fieldLink Rn_Coordinator 15 Rn_Coordinator "epoch" "I" ∈ w_all := wi_0 (List.mem_of_getElem? (i := 13) rfl)
theorem m_14 : Cond.methodLink Rn_Log 3 objectInit ∈ w_all := wi_0 (List.mem_of_getElem? (i := 14) rfl)
theorem m_15 : Cond.fieldLink Rn_Log 9 Rn_Log "up" "Z" ∈ w_all := wi_0 (List.mem_of_getElem? (i := 15) rfl)
theorem m_16 : Cond.fieldLink Rn_Log 15 Rn_Log "epoch" "I" ∈ w_all := wi_0 (List.mem_of_getElem? (i := 16) rfl)
theorem m_17 : Cond.fieldLink Rn_Log 19 Rn_Log "end" "I" ∈ w_all := wi_0 (List.mem_of_getElem? (i := 17) rfl)
theorem m_18 : Cond.arrayClass .int ∈ w_all := wi_0 (List.mem_of_getElem? (i := 18) rfl)
theorem m_19 : Cond.fieldLink Rn_Log 22 Rn_Log "bases" "[I" ∈ w_all := wi_0 (List.mem_of_getElem? (i := 19) rfl)
theorem m_20 : Cond.classLink Rn_Log 26 Rn_Entry ∈ w_all := wi_0 (List.mem_of_getElem? (i := 20) rfl)
theorem m_21 : Cond.fieldLink Rn_Log 28 Rn_Log "records" "[LEpochStore$Entry;" ∈ w_all := wi_0 (List.mem_of_getElem? (i := 21) rfl)
theorem m_22 : Cond.fieldLink Rn_Log 32 Rn_Log "number" "I" ∈ w_all := wi_0 (List.mem_of_getElem? (i := 22) rfl)
theorem m_23 : Cond.methodLink Rn_Storage 3 objectInit ∈ w_all := wi_0 (List.mem_of_getElem? (i := 23) rfl)
theorem m_24 : Cond.fieldLink Rn_Storage 9 Rn_Storage "up" "Z" ∈ w_all := wi_0 (List.mem_of_getElem? (i := 24) rfl)
theorem m_25 : Cond.fieldLink Rn_Storage 15 Rn_Storage "epoch" "I" ∈ w_all := wi_0 (List.mem_of_getElem? (i := 25) rfl)
theorem m_26 : Cond.fieldLink Rn_Storage 19 Rn_Storage "at" "I" ∈ w_all := wi_0 (List.mem_of_getElem? (i := 26) rfl)
theorem m_27 : Cond.classLink Rn_Storage 22 Rn_Entry ∈ w_all := wi_0 (List.mem_of_getElem? (i := 27) rfl)
theorem m_28 : Cond.fieldLink Rn_Storage 24 Rn_Storage "records" "[LEpochStore$Entry;" ∈ w_all := wi_0 (List.mem_of_getElem? (i := 28) rfl)
theorem m_29 : Cond.fieldLink Rn_Storage 28 Rn_Storage "ownKeys" "I" ∈ w_all := wi_0 (List.mem_of_getElem? (i := 29) rfl)
theorem m_30 : Cond.methodLink Rn_Writes 3 objectInit ∈ w_all := wi_0 (List.mem_of_getElem? (i := 30) rfl)
theorem m_31 : Cond.fieldLink Rn_Writes 9 Rn_Writes "values" "[I" ∈ w_all := wi_0 (List.mem_of_getElem? (i := 31) rfl)
theorem m_32 : Cond.methodLink Rn_Client 3 objectInit ∈ w_all := wi_0 (List.mem_of_getElem? (i := 32) rfl)
theorem m_33 : Cond.fieldLink Rn_Client 9 Rn_Client "knownEpoch" "I" ∈ w_all := wi_0 (List.mem_of_getElem? (i := 33) rfl)
theorem m_34 : Cond.fieldLink Rn_Client 15 Rn_Client "state" "I" ∈ w_all := wi_0 (List.mem_of_getElem? (i := 34) rfl)
theorem m_35 : Cond.fieldLink Rn_Client 18 Rn_Client "epoch" "I" ∈ w_all := wi_0 (List.mem_of_getElem? (i := 35) rfl)
theorem m_36 : Cond.classLink Rn_Client 21 Rn_Writes ∈ w_all := wi_0 (List.mem_of_getElem? (i := 36) rfl)
theorem m_37 : Cond.instantiable Rn_Writes 2 ∈ w_all := wi_0 (List.mem_of_getElem? (i := 37) rfl)
theorem m_38 : Cond.initialized Rn_Writes ∈ w_all := wi_0 (List.mem_of_getElem? (i := 38) rfl)
theorem m_39 : Cond.code y_Writes_init b_Writes_init 1 none ∈ w_all := wi_0 (List.mem_of_getElem? (i := 39) rfl)
theorem m_40 : Cond.instanceMethod y_Writes_init ∈ w_all := wi_0 (List.mem_of_getElem? (i := 40) rfl)
theorem m_41 : Cond.fieldLink Rn_Client 24 Rn_Client "writes" "LEpochStore$Writes;" ∈ w_all := wi_0 (List.mem_of_getElem? (i := 41) rfl)
theorem m_42 : Cond.fieldLink Rn_Client 28 Rn_Client "number" "I" ∈ w_all := wi_0 (List.mem_of_getElem? (i := 42) rfl)
theorem m_43 : Cond.methodLink Rn_Master 3 objectInit ∈ w_all := wi_0 (List.mem_of_getElem? (i := 43) rfl)
theorem m_44 : Cond.fieldLink Rn_Master 9 Rn_Master "latestWrite" "[I" ∈ w_all := wi_0 (List.mem_of_getElem? (i := 44) rfl)
theorem m_45 : Cond.classLink Rn_Master 15 Rn_Question ∈ w_all := wi_0 (List.mem_of_getElem? (i := 45) rfl)
theorem m_46 : Cond.fieldLink Rn_Master 17 Rn_Master "questions" "[LEpochStore$Question;" ∈ w_all := wi_0 (List.mem_of_getElem? (i := 46) rfl)
theorem m_47 : Cond.classLink Rn_Master 21 Rn_OnWay ∈ w_all := wi_0 (List.mem_of_getElem? (i := 47) rfl)
theorem m_48 : Cond.fieldLink Rn_Master 23 Rn_Master "onWay" "[LEpochStore$OnWay;" ∈ w_all := wi_0 (List.mem_of_getElem? (i := 48) rfl)
theorem m_49 : Cond.fieldLink Rn_Master 27 Rn_Master "epoch" "I" ∈ w_all := wi_0 (List.mem_of_getElem? (i := 49) rfl)
theorem m_50 : Cond.fieldLink Rn_Master 31 Rn_Master "members" "I" ∈ w_all := wi_0 (List.mem_of_getElem? (i := 50) rfl)
theorem m_51 : Cond.fieldLink Rn_Master 34 Rn_Master "start" "I" ∈ w_all := wi_0 (List.mem_of_getElem? (i := 51) rfl)
theorem m_52 : Cond.fieldLink Rn_Master 37 Rn_Master "last" "I" ∈ w_all := wi_0 (List.mem_of_getElem? (i := 52) rfl)
theorem m_53 : Cond.fieldLink Rn_Master 40 Rn_Master "pushed" "I" ∈ w_all := wi_0 (List.mem_of_getElem? (i := 53) rfl)
theorem m_54 : Cond.fieldLink Rn_Master 43 Rn_Master "committed" "I" ∈ w_all := wi_0 (List.mem_of_getElem? (i := 54) rfl)
theorem m_55 : Cond.methodLink Rn_ES 1 objectInit ∈ w_all := wi_0 (List.mem_of_getElem? (i := 55) rfl)
theorem m_56 : Cond.classLink Rn_ES 9 Rn_Coordinator ∈ w_all := wi_0 (List.mem_of_getElem? (i := 56) rfl)
theorem m_57 : Cond.fieldLink Rn_ES 11 Rn_ES "coordinators" "[LEpochStore$Coordinator;" ∈ w_all := wi_0 (List.mem_of_getElem? (i := 57) rfl)
theorem m_58 : Cond.classLink Rn_ES 15 Rn_Log ∈ w_all := wi_0 (List.mem_of_getElem? (i := 58) rfl)
theorem m_59 : Cond.fieldLink Rn_ES 17 Rn_ES "logs" "[LEpochStore$Log;" ∈ w_all := wi_0 (List.mem_of_getElem? (i := 59) rfl)
theorem m_60 : Cond.classLink Rn_ES 21 Rn_Storage ∈ w_all := wi_0 (List.mem_of_getElem? (i := 60) rfl)
theorem m_61 : Cond.fieldLink Rn_ES 23 Rn_ES "storages" "[LEpochStore$Storage;" ∈ w_all := wi_0 (List.mem_of_getElem? (i := 61) rfl)
theorem m_62 : Cond.classLink Rn_ES 27 Rn_Client ∈ w_all := wi_0 (List.mem_of_getElem? (i := 62) rfl)
theorem m_63 : Cond.fieldLink Rn_ES 29 Rn_ES "clients" "[LEpochStore$Client;" ∈ w_all := wi_0 (List.mem_of_getElem? (i := 63) rfl)
theorem m_64 : Cond.classLink Rn_ES 33 Rn_Master ∈ w_all := wi_0 (List.mem_of_getElem? (i := 64) rfl)
theorem m_65 : Cond.fieldLink Rn_ES 35 Rn_ES "masters" "[LEpochStore$Master;" ∈ w_all := wi_0 (List.mem_of_getElem? (i := 65) rfl)
theorem m_66 : Cond.classLink Rn_ES 39 Rn_Line ∈ w_all := wi_0 (List.mem_of_getElem? (i := 66) rfl)
theorem m_67 : Cond.instantiable Rn_Line 3 ∈ w_all := wi_0 (List.mem_of_getElem? (i := 67) rfl)
theorem m_68 : Cond.initialized Rn_Line ∈ w_all := wi_0 (List.mem_of_getElem? (i := 68) rfl)
theorem m_69 : Cond.methodLink Rn_ES 41 y_Line_init ∈ w_all := wi_0 (List.mem_of_getElem? (i := 69) rfl)
theorem m_70 : Cond.code y_Line_init b_Line_init 2 none ∈ w_all := wi_0 (List.mem_of_getElem? (i := 70) rfl)
theorem m_71 : Cond.instanceMethod y_Line_init ∈ w_all := wi_0 (List.mem_of_getElem? (i := 71) rfl)
theorem m_72 : Cond.fieldLink Rn_ES 42 Rn_ES "line" "LEpochStore$Line;" ∈ w_all := wi_0 (List.mem_of_getElem? (i := 72) rfl)
theorem m_73 : Cond.instantiable Rn_Coordinator 2 ∈ w_all := wi_0 (List.mem_of_getElem? (i := 73) rfl)
theorem m_74 : Cond.initialized Rn_Coordinator ∈ w_all := wi_0 (List.mem_of_getElem? (i := 74) rfl)
theorem m_75 : Cond.code y_Coordinator_init b_Coordinator_init 1 none ∈ w_all := wi_0 (List.mem_of_getElem? (i := 75) rfl)
theorem m_76 : Cond.instanceMethod y_Coordinator_init ∈ w_all := wi_0 (List.mem_of_getElem? (i := 76) rfl)
theorem m_77 : Cond.instantiable Rn_Log 7 ∈ w_all := wi_0 (List.mem_of_getElem? (i := 77) rfl)
theorem m_78 : Cond.initialized Rn_Log ∈ w_all := wi_0 (List.mem_of_getElem? (i := 78) rfl)
theorem m_79 : Cond.methodLink Rn_ES 47 y_Log_init ∈ w_all := wi_0 (List.mem_of_getElem? (i := 79) rfl)
theorem m_80 : Cond.code y_Log_init b_Log_init 2 none ∈ w_all := wi_1 (List.mem_of_getElem? (i := 0) rfl)
theorem m_81 : Cond.instanceMethod y_Log_init ∈ w_all := wi_1 (List.mem_of_getElem? (i := 1) rfl)
theorem m_82 : Cond.instantiable Rn_Storage 6 ∈ w_all := wi_1 (List.mem_of_getElem? (i := 2) rfl)
theorem m_83 : Cond.initialized Rn_Storage ∈ w_all := wi_1 (List.mem_of_getElem? (i := 3) rfl)
theorem m_84 : Cond.methodLink Rn_ES 50 y_Storage_init ∈ w_all := wi_1 (List.mem_of_getElem? (i := 4) rfl)
theorem m_85 : Cond.code y_Storage_init b_Storage_init 2 none ∈ w_all := wi_1 (List.mem_of_getElem? (i := 5) rfl)
theorem m_86 : Cond.instanceMethod y_Storage_init ∈ w_all := wi_1 (List.mem_of_getElem? (i := 6) rfl)
theorem m_87 : Cond.instantiable Rn_Client 9 ∈ w_all := wi_1 (List.mem_of_getElem? (i := 7) rfl)
theorem m_88 : Cond.initialized Rn_Client ∈ w_all := wi_1 (List.mem_of_getElem? (i := 8) rfl)
theorem m_89 : Cond.methodLink Rn_ES 51 y_Client_init ∈ w_all := wi_1 (List.mem_of_getElem? (i := 9) rfl)
theorem m_90 : Cond.code y_Client_init b_Client_init 2 none ∈ w_all := wi_1 (List.mem_of_getElem? (i := 10) rfl)
theorem m_91 : Cond.instanceMethod y_Client_init ∈ w_all := wi_1 (List.mem_of_getElem? (i := 11) rfl)
theorem m_92 : Cond.instantiable Rn_Master 12 ∈ w_all := wi_1 (List.mem_of_getElem? (i := 12) rfl)
theorem m_93 : Cond.initialized Rn_Master ∈ w_all := wi_1 (List.mem_of_getElem? (i := 13) rfl)
theorem m_94 : Cond.methodLink Rn_ES 52 y_Master_init ∈ w_all := wi_1 (List.mem_of_getElem? (i := 14) rfl)
theorem m_95 : Cond.code y_Master_init b_Master_init 5 none ∈ w_all := wi_1 (List.mem_of_getElem? (i := 15) rfl)
theorem m_96 : Cond.instanceMethod y_Master_init ∈ w_all := wi_1 (List.mem_of_getElem? (i := 16) rfl)
theorem m_97 : Cond.fieldLink Rn_ES 205 Rn_Coordinator "up" "Z" ∈ w_all := wi_1 (List.mem_of_getElem? (i := 17) rfl)
theorem m_98 : Cond.fieldLink Rn_ES 220 Rn_Coordinator "epoch" "I" ∈ w_all := wi_1 (List.mem_of_getElem? (i := 18) rfl)
theorem m_99 : Cond.methodLink Rn_ES 221 Lib.Math.max.name ∈ w_all := wi_1 (List.mem_of_getElem? (i := 19) rfl)
theorem m_100 : Cond.static Lib.Math.max.name ∈ w_all := wi_1 (List.mem_of_getElem? (i := 20) rfl)
theorem m_101 : Cond.initialized "java/lang/Math" ∈ w_all := wi_1 (List.mem_of_getElem? (i := 21) rfl)
theorem m_102 : Cond.code Lib.Math.max.name Lib.Math.max.code 2 (some .int) ∈ w_all := wi_1 (List.mem_of_getElem? (i := 22) rfl)
theorem m_103 : Cond.methodLink Rn_ES 55 y_ES_epochOfMajority ∈ w_all := wi_1 (List.mem_of_getElem? (i := 23) rfl)
theorem m_104 : Cond.instanceMethod y_ES_epochOfMajority ∈ w_all := wi_1 (List.mem_of_getElem? (i := 24) rfl)
theorem m_105 : Cond.selects Rn_ES y_ES_epochOfMajority y_ES_epochOfMajority ∈ w_all := wi_1 (List.mem_of_getElem? (i := 25) rfl)
theorem m_106 : Cond.initialized Rn_ES ∈ w_all := wi_1 (List.mem_of_getElem? (i := 26) rfl)
theorem m_107 : Cond.code y_ES_epochOfMajority b_ES_epochOfMajority 4 (some .int) ∈ w_all := wi_1 (List.mem_of_getElem? (i := 27) rfl)
theorem m_108 : Cond.methodLink Rn_ES 59 y_ES_isClient ∈ w_all := wi_1 (List.mem_of_getElem? (i := 28) rfl)
theorem m_109 : Cond.static y_ES_isClient ∈ w_all := wi_1 (List.mem_of_getElem? (i := 29) rfl)
theorem m_110 : Cond.code y_ES_isClient b_ES_isClient 1 (some .boolean) ∈ w_all := wi_1 (List.mem_of_getElem? (i := 30) rfl)
theorem m_111 : Cond.fieldLink Rn_ES 63 Rn_Client "knownEpoch" "I" ∈ w_all := wi_1 (List.mem_of_getElem? (i := 31) rfl)
theorem m_112 : Cond.fieldLink Rn_Message 7 Rn_Message "type" "I" ∈ w_all := wi_1 (List.mem_of_getElem? (i := 32) rfl)
theorem m_113 : Cond.fieldLink Rn_Message 13 Rn_Message "number" "I" ∈ w_all := wi_1 (List.mem_of_getElem? (i := 33) rfl)
theorem m_114 : Cond.fieldLink Rn_Message 16 Rn_Message "epoch" "I" ∈ w_all := wi_1 (List.mem_of_getElem? (i := 34) rfl)
theorem m_115 : Cond.fieldLink Rn_Message 19 Rn_Message "version" "I" ∈ w_all := wi_1 (List.mem_of_getElem? (i := 35) rfl)
theorem m_116 : Cond.fieldLink Rn_Message 22 Rn_Message "transaction" "I" ∈ w_all := wi_1 (List.mem_of_getElem? (i := 36) rfl)
theorem m_117 : Cond.fieldLink Rn_Message 25 Rn_Message "question" "I" ∈ w_all := wi_1 (List.mem_of_getElem? (i := 37) rfl)
theorem m_118 : Cond.fieldLink Rn_Message 28 Rn_Message "result" "I" ∈ w_all := wi_1 (List.mem_of_getElem? (i := 38) rfl)
theorem m_119 : Cond.fieldLink Rn_Message 31 Rn_Message "noted" "I" ∈ w_all := wi_1 (List.mem_of_getElem? (i := 39) rfl)
theorem m_120 : Cond.fieldLink Rn_Message 34 Rn_Message "writes" "LEpochStore$Writes;" ∈ w_all := wi_1 (List.mem_of_getElem? (i := 40) rfl)
theorem m_121 : Cond.fieldLink Rn_Message 38 Rn_Message "entry" "LEpochStore$Entry;" ∈ w_all := wi_1 (List.mem_of_getElem? (i := 41) rfl)
theorem m_122 : Cond.fieldLink Rn_Line 22 Rn_Line "count" "I" ∈ w_all := wi_1 (List.mem_of_getElem? (i := 42) rfl)
theorem m_123 : Cond.methodLink Rn_Line 26 y_Message_reset ∈ w_all := wi_1 (List.mem_of_getElem? (i := 43) rfl)
theorem m_124 : Cond.instanceMethod y_Message_reset ∈ w_all := wi_1 (List.mem_of_getElem? (i := 44) rfl)
theorem m_125 : Cond.selects Rn_Message y_Message_reset y_Message_reset ∈ w_all := wi_1 (List.mem_of_getElem? (i := 45) rfl)
theorem m_126 : Cond.code y_Message_reset b_Message_reset 4 none ∈ w_all := wi_1 (List.mem_of_getElem? (i := 46) rfl)
theorem m_127 : Cond.fieldLink Rn_Client 38 Rn_Client "transaction" "I" ∈ w_all := wi_1 (List.mem_of_getElem? (i := 47) rfl)
theorem m_128 : Cond.fieldLink Rn_Client 31 Rn_Client "readVersion" "I" ∈ w_all := wi_1 (List.mem_of_getElem? (i := 48) rfl)
theorem m_129 : Cond.fieldLink Rn_Client 35 Rn_Client "commitVersion" "I" ∈ w_all := wi_1 (List.mem_of_getElem? (i := 49) rfl)
theorem m_130 : Cond.fieldLink Rn_Client 41 Rn_Client "noted" "I" ∈ w_all := wi_1 (List.mem_of_getElem? (i := 50) rfl)
theorem m_131 : Cond.methodLink Rn_Client 44 y_Line_send ∈ w_all := wi_1 (List.mem_of_getElem? (i := 51) rfl)
theorem m_132 : Cond.instanceMethod y_Line_send ∈ w_all := wi_1 (List.mem_of_getElem? (i := 52) rfl)
theorem m_133 : Cond.selects Rn_Line y_Line_send y_Line_send ∈ w_all := wi_1 (List.mem_of_getElem? (i := 53) rfl)
theorem m_134 : Cond.code y_Line_send b_Line_send 5 (some (.object "EpochStore$Message")) ∈ w_all := wi_1 (List.mem_of_getElem? (i := 54) rfl)
theorem m_135 : Cond.fieldLink Rn_Client 50 Rn_Message "transaction" "I" ∈ w_all := wi_1 (List.mem_of_getElem? (i := 55) rfl)
theorem m_136 : Cond.methodLink Rn_ES 67 y_Client_isBusy ∈ w_all := wi_1 (List.mem_of_getElem? (i := 56) rfl)
theorem m_137 : Cond.instanceMethod y_Client_isBusy ∈ w_all := wi_1 (List.mem_of_getElem? (i := 57) rfl)
theorem m_138 : Cond.selects Rn_Client y_Client_isBusy y_Client_isBusy ∈ w_all := wi_1 (List.mem_of_getElem? (i := 58) rfl)
theorem m_139 : Cond.code y_Client_isBusy b_Client_isBusy 1 (some .boolean) ∈ w_all := wi_1 (List.mem_of_getElem? (i := 59) rfl)
theorem m_140 : Cond.methodLink Rn_ES 71 y_Client_ask ∈ w_all := wi_1 (List.mem_of_getElem? (i := 60) rfl)
theorem m_141 : Cond.instanceMethod y_Client_ask ∈ w_all := wi_1 (List.mem_of_getElem? (i := 61) rfl)
theorem m_142 : Cond.selects Rn_Client y_Client_ask y_Client_ask ∈ w_all := wi_1 (List.mem_of_getElem? (i := 62) rfl)
theorem m_143 : Cond.code y_Client_ask b_Client_ask 2 none ∈ w_all := wi_1 (List.mem_of_getElem? (i := 63) rfl)
theorem m_144 : Cond.fieldLink Rn_ES 202 Rn_Client "state" "I" ∈ w_all := wi_1 (List.mem_of_getElem? (i := 64) rfl)
theorem m_145 : Cond.fieldLink Rn_Writes 15 Rn_Writes "keys" "I" ∈ w_all := wi_1 (List.mem_of_getElem? (i := 65) rfl)
theorem m_146 : Cond.constantLong Rn_Storage 81 (1099511627777) ∈ w_all := wi_1 (List.mem_of_getElem? (i := 66) rfl)
theorem m_147 : Cond.fieldLink Rn_Storage 31 Rn_Storage "count" "I" ∈ w_all := wi_1 (List.mem_of_getElem? (i := 67) rfl)
theorem m_148 : Cond.constantLong Rn_Storage 83 (1099511627778) ∈ w_all := wi_1 (List.mem_of_getElem? (i := 68) rfl)
theorem m_149 : Cond.constantLong Rn_Storage 79 (1099511627776) ∈ w_all := wi_1 (List.mem_of_getElem? (i := 69) rfl)
theorem m_150 : Cond.fieldLink Rn_Storage 55 Rn_Entry "version" "I" ∈ w_all := wi_1 (List.mem_of_getElem? (i := 70) rfl)
theorem m_151 : Cond.fieldLink Rn_Storage 70 Rn_Entry "writes" "LEpochStore$Writes;" ∈ w_all := wi_1 (List.mem_of_getElem? (i := 71) rfl)
theorem m_152 : Cond.methodLink Rn_Storage 85 y_Writes_has ∈ w_all := wi_1 (List.mem_of_getElem? (i := 72) rfl)
theorem m_153 : Cond.instanceMethod y_Writes_has ∈ w_all := wi_1 (List.mem_of_getElem? (i := 73) rfl)
theorem m_154 : Cond.selects Rn_Writes y_Writes_has y_Writes_has ∈ w_all := wi_1 (List.mem_of_getElem? (i := 74) rfl)
theorem m_155 : Cond.code y_Writes_has b_Writes_has 2 (some .boolean) ∈ w_all := wi_1 (List.mem_of_getElem? (i := 75) rfl)
theorem m_156 : Cond.fieldLink Rn_Storage 89 Rn_Writes "values" "[I" ∈ w_all := wi_1 (List.mem_of_getElem? (i := 76) rfl)
theorem m_157 : Cond.fieldLink Rn_ES 94 Rn_Client "writes" "LEpochStore$Writes;" ∈ w_all := wi_1 (List.mem_of_getElem? (i := 77) rfl)
theorem m_158 : Cond.methodLink Rn_ES 207 y_Writes_has ∈ w_all := wi_1 (List.mem_of_getElem? (i := 78) rfl)
theorem m_159 : Cond.fieldLink Rn_ES 212 Rn_Client "readVersion" "I" ∈ w_all := wi_1 (List.mem_of_getElem? (i := 79) rfl)
theorem m_160 : Cond.fieldLink Rn_ES 215 Rn_Client "epoch" "I" ∈ w_all := wi_2 (List.mem_of_getElem? (i := 0) rfl)
theorem m_161 : Cond.methodLink Rn_ES 216 y_Storage_valueAt ∈ w_all := wi_2 (List.mem_of_getElem? (i := 1) rfl)
theorem m_162 : Cond.instanceMethod y_Storage_valueAt ∈ w_all := wi_2 (List.mem_of_getElem? (i := 2) rfl)
theorem m_163 : Cond.selects Rn_Storage y_Storage_valueAt y_Storage_valueAt ∈ w_all := wi_2 (List.mem_of_getElem? (i := 3) rfl)
theorem m_164 : Cond.code y_Storage_valueAt b_Storage_valueAt 5 (some .long) ∈ w_all := wi_2 (List.mem_of_getElem? (i := 4) rfl)
theorem m_165 : Cond.fieldLink Rn_ES 208 Rn_Writes "values" "[I" ∈ w_all := wi_2 (List.mem_of_getElem? (i := 5) rfl)
theorem m_166 : Cond.constantLong Rn_ES 200 (1099511627776) ∈ w_all := wi_2 (List.mem_of_getElem? (i := 6) rfl)
theorem m_167 : Cond.methodLink Rn_Client 53 y_Writes_has ∈ w_all := wi_2 (List.mem_of_getElem? (i := 7) rfl)
theorem m_168 : Cond.methodLink Rn_ES 75 y_ES_isOpen ∈ w_all := wi_2 (List.mem_of_getElem? (i := 8) rfl)
theorem m_169 : Cond.instanceMethod y_ES_isOpen ∈ w_all := wi_2 (List.mem_of_getElem? (i := 9) rfl)
theorem m_170 : Cond.selects Rn_ES y_ES_isOpen y_ES_isOpen ∈ w_all := wi_2 (List.mem_of_getElem? (i := 10) rfl)
theorem m_171 : Cond.code y_ES_isOpen b_ES_isOpen 2 (some .boolean) ∈ w_all := wi_2 (List.mem_of_getElem? (i := 11) rfl)
theorem m_172 : Cond.constantLong Rn_ES 81 (-1) ∈ w_all := wi_2 (List.mem_of_getElem? (i := 12) rfl)
theorem m_173 : Cond.methodLink Rn_ES 78 y_ES_isKey ∈ w_all := wi_2 (List.mem_of_getElem? (i := 13) rfl)
theorem m_174 : Cond.static y_ES_isKey ∈ w_all := wi_2 (List.mem_of_getElem? (i := 14) rfl)
theorem m_175 : Cond.code y_ES_isKey b_ES_isKey 1 (some .boolean) ∈ w_all := wi_2 (List.mem_of_getElem? (i := 15) rfl)
theorem m_176 : Cond.methodLink Rn_ES 83 y_ES_valueFor ∈ w_all := wi_2 (List.mem_of_getElem? (i := 16) rfl)
theorem m_177 : Cond.instanceMethod y_ES_valueFor ∈ w_all := wi_2 (List.mem_of_getElem? (i := 17) rfl)
theorem m_178 : Cond.selects Rn_ES y_ES_valueFor y_ES_valueFor ∈ w_all := wi_2 (List.mem_of_getElem? (i := 18) rfl)
theorem m_179 : Cond.code y_ES_valueFor b_ES_valueFor 3 (some .long) ∈ w_all := wi_2 (List.mem_of_getElem? (i := 19) rfl)
theorem m_180 : Cond.methodLink Rn_ES 87 y_ES_isValue ∈ w_all := wi_2 (List.mem_of_getElem? (i := 20) rfl)
theorem m_181 : Cond.static y_ES_isValue ∈ w_all := wi_2 (List.mem_of_getElem? (i := 21) rfl)
theorem m_182 : Cond.code y_ES_isValue b_ES_isValue 2 (some .boolean) ∈ w_all := wi_2 (List.mem_of_getElem? (i := 22) rfl)
theorem m_183 : Cond.methodLink Rn_ES 91 y_Client_noteUnwritten ∈ w_all := wi_2 (List.mem_of_getElem? (i := 23) rfl)
theorem m_184 : Cond.instanceMethod y_Client_noteUnwritten ∈ w_all := wi_2 (List.mem_of_getElem? (i := 24) rfl)
theorem m_185 : Cond.selects Rn_Client y_Client_noteUnwritten y_Client_noteUnwritten ∈ w_all := wi_2 (List.mem_of_getElem? (i := 25) rfl)
theorem m_186 : Cond.code y_Client_noteUnwritten b_Client_noteUnwritten 2 none ∈ w_all := wi_2 (List.mem_of_getElem? (i := 26) rfl)
theorem m_187 : Cond.methodLink Rn_ES 98 y_Writes_put ∈ w_all := wi_2 (List.mem_of_getElem? (i := 27) rfl)
theorem m_188 : Cond.instanceMethod y_Writes_put ∈ w_all := wi_2 (List.mem_of_getElem? (i := 28) rfl)
theorem m_189 : Cond.selects Rn_Writes y_Writes_put y_Writes_put ∈ w_all := wi_2 (List.mem_of_getElem? (i := 29) rfl)
theorem m_190 : Cond.code y_Writes_put b_Writes_put 3 none ∈ w_all := wi_2 (List.mem_of_getElem? (i := 30) rfl)
theorem m_191 : Cond.fieldLink Rn_Client 57 Rn_Writes "keys" "I" ∈ w_all := wi_2 (List.mem_of_getElem? (i := 31) rfl)
theorem m_192 : Cond.fieldLink Rn_Client 60 Rn_Message "version" "I" ∈ w_all := wi_2 (List.mem_of_getElem? (i := 32) rfl)
theorem m_193 : Cond.fieldLink Rn_Client 63 Rn_Message "noted" "I" ∈ w_all := wi_2 (List.mem_of_getElem? (i := 33) rfl)
theorem m_194 : Cond.fieldLink Rn_Client 64 Rn_Message "writes" "LEpochStore$Writes;" ∈ w_all := wi_2 (List.mem_of_getElem? (i := 34) rfl)
theorem m_195 : Cond.methodLink Rn_ES 104 y_Client_finish ∈ w_all := wi_2 (List.mem_of_getElem? (i := 35) rfl)
theorem m_196 : Cond.instanceMethod y_Client_finish ∈ w_all := wi_2 (List.mem_of_getElem? (i := 36) rfl)
theorem m_197 : Cond.selects Rn_Client y_Client_finish y_Client_finish ∈ w_all := wi_2 (List.mem_of_getElem? (i := 37) rfl)
theorem m_198 : Cond.code y_Client_finish b_Client_finish 3 none ∈ w_all := wi_2 (List.mem_of_getElem? (i := 38) rfl)
theorem m_199 : Cond.methodLink Rn_ES 107 y_Client_drop ∈ w_all := wi_2 (List.mem_of_getElem? (i := 39) rfl)
theorem m_200 : Cond.instanceMethod y_Client_drop ∈ w_all := wi_2 (List.mem_of_getElem? (i := 40) rfl)
theorem m_201 : Cond.selects Rn_Client y_Client_drop y_Client_drop ∈ w_all := wi_2 (List.mem_of_getElem? (i := 41) rfl)
theorem m_202 : Cond.code y_Client_drop b_Client_drop 1 none ∈ w_all := wi_2 (List.mem_of_getElem? (i := 42) rfl)
theorem m_203 : Cond.constant Rn_Client 34 (65536) ∈ w_all := wi_2 (List.mem_of_getElem? (i := 43) rfl)
theorem m_204 : Cond.methodLink Rn_ES 110 y_Client_code ∈ w_all := wi_2 (List.mem_of_getElem? (i := 44) rfl)
theorem m_205 : Cond.instanceMethod y_Client_code ∈ w_all := wi_2 (List.mem_of_getElem? (i := 45) rfl)
theorem m_206 : Cond.selects Rn_Client y_Client_code y_Client_code ∈ w_all := wi_2 (List.mem_of_getElem? (i := 46) rfl)
theorem m_207 : Cond.code y_Client_code b_Client_code 1 (some .int) ∈ w_all := wi_2 (List.mem_of_getElem? (i := 47) rfl)
theorem m_208 : Cond.fieldLink Rn_ES 113 Rn_Line "count" "I" ∈ w_all := wi_2 (List.mem_of_getElem? (i := 48) rfl)
theorem m_209 : Cond.constant Rn_Message 42 (65536) ∈ w_all := wi_2 (List.mem_of_getElem? (i := 49) rfl)
theorem m_210 : Cond.methodLink Rn_ES 116 y_Line_has ∈ w_all := wi_2 (List.mem_of_getElem? (i := 50) rfl)
theorem m_211 : Cond.instanceMethod y_Line_has ∈ w_all := wi_2 (List.mem_of_getElem? (i := 51) rfl)
theorem m_212 : Cond.selects Rn_Line y_Line_has y_Line_has ∈ w_all := wi_2 (List.mem_of_getElem? (i := 52) rfl)
theorem m_213 : Cond.code y_Line_has b_Line_has 2 (some .boolean) ∈ w_all := wi_2 (List.mem_of_getElem? (i := 53) rfl)
theorem m_214 : Cond.fieldLink Rn_ES 119 Rn_Line "rows" "[LEpochStore$Message;" ∈ w_all := wi_2 (List.mem_of_getElem? (i := 54) rfl)
theorem m_215 : Cond.methodLink Rn_ES 123 y_Message_code ∈ w_all := wi_2 (List.mem_of_getElem? (i := 55) rfl)
theorem m_216 : Cond.instanceMethod y_Message_code ∈ w_all := wi_2 (List.mem_of_getElem? (i := 56) rfl)
theorem m_217 : Cond.selects Rn_Message y_Message_code y_Message_code ∈ w_all := wi_2 (List.mem_of_getElem? (i := 57) rfl)
theorem m_218 : Cond.code y_Message_code b_Message_code 1 (some .int) ∈ w_all := wi_2 (List.mem_of_getElem? (i := 58) rfl)
theorem m_219 : Cond.fieldLink Rn_Log 65 Rn_Entry "before" "I" ∈ w_all := wi_2 (List.mem_of_getElem? (i := 59) rfl)
theorem m_220 : Cond.fieldLink Rn_Log 35 Rn_Log "count" "I" ∈ w_all := wi_2 (List.mem_of_getElem? (i := 60) rfl)
theorem m_221 : Cond.fieldLink Rn_Log 68 Rn_Entry "version" "I" ∈ w_all := wi_2 (List.mem_of_getElem? (i := 61) rfl)
theorem m_222 : Cond.fieldLink Rn_Log 39 Rn_Message "epoch" "I" ∈ w_all := wi_2 (List.mem_of_getElem? (i := 62) rfl)
theorem m_223 : Cond.fieldLink Rn_Log 42 Rn_Message "type" "I" ∈ w_all := wi_2 (List.mem_of_getElem? (i := 63) rfl)
theorem m_224 : Cond.fieldLink Rn_Log 54 Rn_Message "entry" "LEpochStore$Entry;" ∈ w_all := wi_2 (List.mem_of_getElem? (i := 64) rfl)
theorem m_225 : Cond.methodLink Rn_Log 58 y_Log_takeRecord ∈ w_all := wi_2 (List.mem_of_getElem? (i := 65) rfl)
theorem m_226 : Cond.instanceMethod y_Log_takeRecord ∈ w_all := wi_2 (List.mem_of_getElem? (i := 66) rfl)
theorem m_227 : Cond.selects Rn_Log y_Log_takeRecord y_Log_takeRecord ∈ w_all := wi_2 (List.mem_of_getElem? (i := 67) rfl)
theorem m_228 : Cond.code y_Log_takeRecord b_Log_takeRecord 2 (some .boolean) ∈ w_all := wi_2 (List.mem_of_getElem? (i := 68) rfl)
theorem m_229 : Cond.methodLink Rn_Log 45 y_Line_send ∈ w_all := wi_2 (List.mem_of_getElem? (i := 69) rfl)
theorem m_230 : Cond.fieldLink Rn_Log 62 Rn_Message "version" "I" ∈ w_all := wi_2 (List.mem_of_getElem? (i := 70) rfl)
theorem m_231 : Cond.fieldLink Rn_Log 51 Rn_Message "question" "I" ∈ w_all := wi_2 (List.mem_of_getElem? (i := 71) rfl)
theorem m_232 : Cond.fieldLink Rn_Client 65 Rn_Message "type" "I" ∈ w_all := wi_2 (List.mem_of_getElem? (i := 72) rfl)
theorem m_233 : Cond.fieldLink Rn_Client 68 Rn_Message "result" "I" ∈ w_all := wi_2 (List.mem_of_getElem? (i := 73) rfl)
theorem m_234 : Cond.methodLink Rn_Question 1 objectInit ∈ w_all := wi_2 (List.mem_of_getElem? (i := 74) rfl)
theorem m_235 : Cond.fieldLink Rn_Question 7 Rn_Question "number" "I" ∈ w_all := wi_2 (List.mem_of_getElem? (i := 75) rfl)
theorem m_236 : Cond.fieldLink Rn_Question 13 Rn_Question "client" "I" ∈ w_all := wi_2 (List.mem_of_getElem? (i := 76) rfl)
theorem m_237 : Cond.fieldLink Rn_Question 16 Rn_Question "transaction" "I" ∈ w_all := wi_2 (List.mem_of_getElem? (i := 77) rfl)
theorem m_238 : Cond.fieldLink Rn_Master 46 Rn_Master "questionCount" "I" ∈ w_all := wi_2 (List.mem_of_getElem? (i := 78) rfl)
theorem m_239 : Cond.fieldLink Rn_Master 79 Rn_Master "questionsEver" "I" ∈ w_all := wi_2 (List.mem_of_getElem? (i := 79) rfl)
theorem m_240 : Cond.instantiable Rn_Question 4 ∈ w_all := wi_3 (List.mem_of_getElem? (i := 0) rfl)
theorem m_241 : Cond.initialized Rn_Question ∈ w_all := wi_3 (List.mem_of_getElem? (i := 1) rfl)
theorem m_242 : Cond.fieldLink Rn_Master 82 Rn_Message "number" "I" ∈ w_all := wi_3 (List.mem_of_getElem? (i := 2) rfl)
theorem m_243 : Cond.fieldLink Rn_Master 85 Rn_Message "transaction" "I" ∈ w_all := wi_3 (List.mem_of_getElem? (i := 3) rfl)
theorem m_244 : Cond.methodLink Rn_Master 88 y_Question_init ∈ w_all := wi_3 (List.mem_of_getElem? (i := 4) rfl)
theorem m_245 : Cond.code y_Question_init b_Question_init 4 none ∈ w_all := wi_3 (List.mem_of_getElem? (i := 5) rfl)
theorem m_246 : Cond.instanceMethod y_Question_init ∈ w_all := wi_3 (List.mem_of_getElem? (i := 6) rfl)
theorem m_247 : Cond.methodLink Rn_Master 91 y_Line_send ∈ w_all := wi_3 (List.mem_of_getElem? (i := 7) rfl)
theorem m_248 : Cond.fieldLink Rn_Master 97 Rn_Message "question" "I" ∈ w_all := wi_3 (List.mem_of_getElem? (i := 8) rfl)
theorem m_249 : Cond.fieldLink Rn_Master 115 Rn_Question "number" "I" ∈ w_all := wi_3 (List.mem_of_getElem? (i := 9) rfl)
theorem m_250 : Cond.fieldLink Rn_Master 116 Rn_Question "client" "I" ∈ w_all := wi_3 (List.mem_of_getElem? (i := 10) rfl)
theorem m_251 : Cond.fieldLink Rn_Master 119 Rn_Question "transaction" "I" ∈ w_all := wi_3 (List.mem_of_getElem? (i := 11) rfl)
theorem m_252 : Cond.fieldLink Rn_Master 120 Rn_Message "version" "I" ∈ w_all := wi_3 (List.mem_of_getElem? (i := 12) rfl)
theorem m_253 : Cond.methodLink Rn_Master 100 y_Master_placeOfQuestion ∈ w_all := wi_3 (List.mem_of_getElem? (i := 13) rfl)
theorem m_254 : Cond.instanceMethod y_Master_placeOfQuestion ∈ w_all := wi_3 (List.mem_of_getElem? (i := 14) rfl)
theorem m_255 : Cond.selects Rn_Master y_Master_placeOfQuestion y_Master_placeOfQuestion ∈ w_all := wi_3 (List.mem_of_getElem? (i := 15) rfl)
theorem m_256 : Cond.code y_Master_placeOfQuestion b_Master_placeOfQuestion 3 (some .int) ∈ w_all := wi_3 (List.mem_of_getElem? (i := 16) rfl)
theorem m_257 : Cond.fieldLink Rn_Master 104 Rn_Question "confirmed" "I" ∈ w_all := wi_3 (List.mem_of_getElem? (i := 17) rfl)
theorem m_258 : Cond.methodLink Rn_Master 107 y_Master_answer ∈ w_all := wi_3 (List.mem_of_getElem? (i := 18) rfl)
theorem m_259 : Cond.instanceMethod y_Master_answer ∈ w_all := wi_3 (List.mem_of_getElem? (i := 19) rfl)
theorem m_260 : Cond.selects Rn_Master y_Master_answer y_Master_answer ∈ w_all := wi_3 (List.mem_of_getElem? (i := 20) rfl)
theorem m_261 : Cond.code y_Master_answer b_Master_answer 4 none ∈ w_all := wi_3 (List.mem_of_getElem? (i := 21) rfl)
theorem m_262 : Cond.methodLink Rn_Master 111 y_Master_removeQuestion ∈ w_all := wi_3 (List.mem_of_getElem? (i := 22) rfl)
theorem m_263 : Cond.instanceMethod y_Master_removeQuestion ∈ w_all := wi_3 (List.mem_of_getElem? (i := 23) rfl)
theorem m_264 : Cond.selects Rn_Master y_Master_removeQuestion y_Master_removeQuestion ∈ w_all := wi_3 (List.mem_of_getElem? (i := 24) rfl)
theorem m_265 : Cond.code y_Master_removeQuestion b_Master_removeQuestion 3 none ∈ w_all := wi_3 (List.mem_of_getElem? (i := 25) rfl)
theorem m_266 : Cond.fieldLink Rn_Master 177 Rn_Message "result" "I" ∈ w_all := wi_3 (List.mem_of_getElem? (i := 26) rfl)
theorem m_267 : Cond.fieldLink Rn_Master 146 Rn_Message "noted" "I" ∈ w_all := wi_3 (List.mem_of_getElem? (i := 27) rfl)
theorem m_268 : Cond.methodLink Rn_Master 149 y_Writes_has ∈ w_all := wi_3 (List.mem_of_getElem? (i := 28) rfl)
theorem m_269 : Cond.methodLink Rn_Master 134 y_Master_findsConflict ∈ w_all := wi_3 (List.mem_of_getElem? (i := 29) rfl)
theorem m_270 : Cond.instanceMethod y_Master_findsConflict ∈ w_all := wi_3 (List.mem_of_getElem? (i := 30) rfl)
theorem m_271 : Cond.selects Rn_Master y_Master_findsConflict y_Master_findsConflict ∈ w_all := wi_3 (List.mem_of_getElem? (i := 31) rfl)
theorem m_272 : Cond.code y_Master_findsConflict b_Master_findsConflict 4 (some .boolean) ∈ w_all := wi_3 (List.mem_of_getElem? (i := 32) rfl)
theorem m_273 : Cond.fieldLink Rn_Master 138 Rn_Message "writes" "LEpochStore$Writes;" ∈ w_all := wi_3 (List.mem_of_getElem? (i := 33) rfl)
theorem m_274 : Cond.methodLink Rn_Master 142 y_Master_letPass ∈ w_all := wi_3 (List.mem_of_getElem? (i := 34) rfl)
theorem m_275 : Cond.instanceMethod y_Master_letPass ∈ w_all := wi_3 (List.mem_of_getElem? (i := 35) rfl)
theorem m_276 : Cond.selects Rn_Master y_Master_letPass y_Master_letPass ∈ w_all := wi_3 (List.mem_of_getElem? (i := 36) rfl)
theorem m_277 : Cond.code y_Master_letPass b_Master_letPass 4 none ∈ w_all := wi_3 (List.mem_of_getElem? (i := 37) rfl)
theorem m_278 : Cond.methodLink Rn_Entry 1 objectInit ∈ w_all := wi_3 (List.mem_of_getElem? (i := 38) rfl)
theorem m_279 : Cond.fieldLink Rn_Entry 7 Rn_Entry "version" "I" ∈ w_all := wi_3 (List.mem_of_getElem? (i := 39) rfl)
theorem m_280 : Cond.fieldLink Rn_Entry 13 Rn_Entry "before" "I" ∈ w_all := wi_3 (List.mem_of_getElem? (i := 40) rfl)
theorem m_281 : Cond.fieldLink Rn_Entry 16 Rn_Entry "writes" "LEpochStore$Writes;" ∈ w_all := wi_3 (List.mem_of_getElem? (i := 41) rfl)
theorem m_282 : Cond.methodLink Rn_OnWay 1 objectInit ∈ w_all := wi_3 (List.mem_of_getElem? (i := 42) rfl)
theorem m_283 : Cond.fieldLink Rn_OnWay 7 Rn_OnWay "entry" "LEpochStore$Entry;" ∈ w_all := wi_3 (List.mem_of_getElem? (i := 43) rfl)
theorem m_284 : Cond.fieldLink Rn_OnWay 13 Rn_OnWay "client" "I" ∈ w_all := wi_3 (List.mem_of_getElem? (i := 44) rfl)
theorem m_285 : Cond.fieldLink Rn_OnWay 17 Rn_OnWay "transaction" "I" ∈ w_all := wi_3 (List.mem_of_getElem? (i := 45) rfl)
theorem m_286 : Cond.fieldLink Rn_Master 163 Rn_OnWay "acknowledged" "I" ∈ w_all := wi_3 (List.mem_of_getElem? (i := 46) rfl)
theorem m_287 : Cond.fieldLink Rn_Master 166 Rn_OnWay "entry" "LEpochStore$Entry;" ∈ w_all := wi_3 (List.mem_of_getElem? (i := 47) rfl)
theorem m_288 : Cond.fieldLink Rn_Master 170 Rn_Entry "version" "I" ∈ w_all := wi_3 (List.mem_of_getElem? (i := 48) rfl)
theorem m_289 : Cond.fieldLink Rn_Master 171 Rn_Message "entry" "LEpochStore$Entry;" ∈ w_all := wi_3 (List.mem_of_getElem? (i := 49) rfl)
theorem m_290 : Cond.instantiable Rn_OnWay 4 ∈ w_all := wi_3 (List.mem_of_getElem? (i := 50) rfl)
theorem m_291 : Cond.initialized Rn_OnWay ∈ w_all := wi_3 (List.mem_of_getElem? (i := 51) rfl)
theorem m_292 : Cond.classLink Rn_Master 155 Rn_Entry ∈ w_all := wi_3 (List.mem_of_getElem? (i := 52) rfl)
theorem m_293 : Cond.instantiable Rn_Entry 3 ∈ w_all := wi_3 (List.mem_of_getElem? (i := 53) rfl)
theorem m_294 : Cond.initialized Rn_Entry ∈ w_all := wi_3 (List.mem_of_getElem? (i := 54) rfl)
theorem m_295 : Cond.methodLink Rn_Master 157 y_Entry_init ∈ w_all := wi_3 (List.mem_of_getElem? (i := 55) rfl)
theorem m_296 : Cond.code y_Entry_init b_Entry_init 4 none ∈ w_all := wi_3 (List.mem_of_getElem? (i := 56) rfl)
theorem m_297 : Cond.instanceMethod y_Entry_init ∈ w_all := wi_3 (List.mem_of_getElem? (i := 57) rfl)
theorem m_298 : Cond.methodLink Rn_Master 160 y_OnWay_init ∈ w_all := wi_3 (List.mem_of_getElem? (i := 58) rfl)
theorem m_299 : Cond.code y_OnWay_init b_OnWay_init 4 none ∈ w_all := wi_3 (List.mem_of_getElem? (i := 59) rfl)
theorem m_300 : Cond.instanceMethod y_OnWay_init ∈ w_all := wi_3 (List.mem_of_getElem? (i := 60) rfl)
theorem m_301 : Cond.fieldLink Rn_Master 49 Rn_Master "onWayCount" "I" ∈ w_all := wi_3 (List.mem_of_getElem? (i := 61) rfl)
theorem m_302 : Cond.methodLink Rn_Master 75 y_Master_pushToOthers ∈ w_all := wi_3 (List.mem_of_getElem? (i := 62) rfl)
theorem m_303 : Cond.instanceMethod y_Master_pushToOthers ∈ w_all := wi_3 (List.mem_of_getElem? (i := 63) rfl)
theorem m_304 : Cond.selects Rn_Master y_Master_pushToOthers y_Master_pushToOthers ∈ w_all := wi_3 (List.mem_of_getElem? (i := 64) rfl)
theorem m_305 : Cond.code y_Master_pushToOthers b_Master_pushToOthers 6 (some .int) ∈ w_all := wi_3 (List.mem_of_getElem? (i := 65) rfl)
theorem m_306 : Cond.methodLink Rn_Master 127 y_Master_passesResolvers ∈ w_all := wi_3 (List.mem_of_getElem? (i := 66) rfl)
theorem m_307 : Cond.instanceMethod y_Master_passesResolvers ∈ w_all := wi_3 (List.mem_of_getElem? (i := 67) rfl)
theorem m_308 : Cond.selects Rn_Master y_Master_passesResolvers y_Master_passesResolvers ∈ w_all := wi_3 (List.mem_of_getElem? (i := 68) rfl)
theorem m_309 : Cond.code y_Master_passesResolvers b_Master_passesResolvers 4 (some .boolean) ∈ w_all := wi_3 (List.mem_of_getElem? (i := 69) rfl)
theorem m_310 : Cond.methodLink Rn_Master 123 y_Master_sendResult ∈ w_all := wi_3 (List.mem_of_getElem? (i := 70) rfl)
theorem m_311 : Cond.instanceMethod y_Master_sendResult ∈ w_all := wi_3 (List.mem_of_getElem? (i := 71) rfl)
theorem m_312 : Cond.selects Rn_Master y_Master_sendResult y_Master_sendResult ∈ w_all := wi_3 (List.mem_of_getElem? (i := 72) rfl)
theorem m_313 : Cond.code y_Master_sendResult b_Master_sendResult 6 (some (.object "EpochStore$Message")) ∈ w_all := wi_3 (List.mem_of_getElem? (i := 73) rfl)
theorem m_314 : Cond.methodLink Rn_Master 131 y_Master_putOnWay ∈ w_all := wi_3 (List.mem_of_getElem? (i := 74) rfl)
theorem m_315 : Cond.instanceMethod y_Master_putOnWay ∈ w_all := wi_3 (List.mem_of_getElem? (i := 75) rfl)
theorem m_316 : Cond.selects Rn_Master y_Master_putOnWay y_Master_putOnWay ∈ w_all := wi_3 (List.mem_of_getElem? (i := 76) rfl)
theorem m_317 : Cond.code y_Master_putOnWay b_Master_putOnWay 4 none ∈ w_all := wi_3 (List.mem_of_getElem? (i := 77) rfl)
theorem m_318 : Cond.fieldLink Rn_Master 172 Rn_OnWay "client" "I" ∈ w_all := wi_3 (List.mem_of_getElem? (i := 78) rfl)
theorem m_319 : Cond.fieldLink Rn_Master 173 Rn_OnWay "transaction" "I" ∈ w_all := wi_3 (List.mem_of_getElem? (i := 79) rfl)
theorem m_320 : Cond.methodLink Rn_Master 174 y_Master_removeOldestOnWay ∈ w_all := wi_4 (List.mem_of_getElem? (i := 0) rfl)
theorem m_321 : Cond.instanceMethod y_Master_removeOldestOnWay ∈ w_all := wi_4 (List.mem_of_getElem? (i := 1) rfl)
theorem m_322 : Cond.selects Rn_Master y_Master_removeOldestOnWay y_Master_removeOldestOnWay ∈ w_all := wi_4 (List.mem_of_getElem? (i := 2) rfl)
theorem m_323 : Cond.code y_Master_removeOldestOnWay b_Master_removeOldestOnWay 3 none ∈ w_all := wi_4 (List.mem_of_getElem? (i := 3) rfl)
theorem m_324 : Cond.fieldLink Rn_Master 52 Rn_Message "type" "I" ∈ w_all := wi_4 (List.mem_of_getElem? (i := 4) rfl)
theorem m_325 : Cond.methodLink Rn_Master 57 y_Master_openQuestion ∈ w_all := wi_4 (List.mem_of_getElem? (i := 5) rfl)
theorem m_326 : Cond.instanceMethod y_Master_openQuestion ∈ w_all := wi_4 (List.mem_of_getElem? (i := 6) rfl)
theorem m_327 : Cond.selects Rn_Master y_Master_openQuestion y_Master_openQuestion ∈ w_all := wi_4 (List.mem_of_getElem? (i := 7) rfl)
theorem m_328 : Cond.code y_Master_openQuestion b_Master_openQuestion 4 none ∈ w_all := wi_4 (List.mem_of_getElem? (i := 8) rfl)
theorem m_329 : Cond.methodLink Rn_Master 67 y_Master_takeAcknowledgement ∈ w_all := wi_4 (List.mem_of_getElem? (i := 9) rfl)
theorem m_330 : Cond.instanceMethod y_Master_takeAcknowledgement ∈ w_all := wi_4 (List.mem_of_getElem? (i := 10) rfl)
theorem m_331 : Cond.selects Rn_Master y_Master_takeAcknowledgement y_Master_takeAcknowledgement ∈ w_all := wi_4 (List.mem_of_getElem? (i := 11) rfl)
theorem m_332 : Cond.code y_Master_takeAcknowledgement b_Master_takeAcknowledgement 3 none ∈ w_all := wi_4 (List.mem_of_getElem? (i := 12) rfl)
theorem m_333 : Cond.methodLink Rn_Master 71 y_Master_settle ∈ w_all := wi_4 (List.mem_of_getElem? (i := 13) rfl)
theorem m_334 : Cond.instanceMethod y_Master_settle ∈ w_all := wi_4 (List.mem_of_getElem? (i := 14) rfl)
theorem m_335 : Cond.selects Rn_Master y_Master_settle y_Master_settle ∈ w_all := wi_4 (List.mem_of_getElem? (i := 15) rfl)
theorem m_336 : Cond.code y_Master_settle b_Master_settle 4 none ∈ w_all := wi_4 (List.mem_of_getElem? (i := 16) rfl)
theorem m_337 : Cond.methodLink Rn_Master 61 y_Master_takeConfirmation ∈ w_all := wi_4 (List.mem_of_getElem? (i := 17) rfl)
theorem m_338 : Cond.instanceMethod y_Master_takeConfirmation ∈ w_all := wi_4 (List.mem_of_getElem? (i := 18) rfl)
theorem m_339 : Cond.selects Rn_Master y_Master_takeConfirmation y_Master_takeConfirmation ∈ w_all := wi_4 (List.mem_of_getElem? (i := 19) rfl)
theorem m_340 : Cond.code y_Master_takeConfirmation b_Master_takeConfirmation 4 none ∈ w_all := wi_4 (List.mem_of_getElem? (i := 20) rfl)
theorem m_341 : Cond.methodLink Rn_Master 64 y_Master_decide ∈ w_all := wi_4 (List.mem_of_getElem? (i := 21) rfl)
theorem m_342 : Cond.instanceMethod y_Master_decide ∈ w_all := wi_4 (List.mem_of_getElem? (i := 22) rfl)
theorem m_343 : Cond.selects Rn_Master y_Master_decide y_Master_decide ∈ w_all := wi_4 (List.mem_of_getElem? (i := 23) rfl)
theorem m_344 : Cond.code y_Master_decide b_Master_decide 3 none ∈ w_all := wi_4 (List.mem_of_getElem? (i := 24) rfl)
theorem m_345 : Cond.methodLink Rn_ES 126 y_Line_take ∈ w_all := wi_4 (List.mem_of_getElem? (i := 25) rfl)
theorem m_346 : Cond.instanceMethod y_Line_take ∈ w_all := wi_4 (List.mem_of_getElem? (i := 26) rfl)
theorem m_347 : Cond.selects Rn_Line y_Line_take y_Line_take ∈ w_all := wi_4 (List.mem_of_getElem? (i := 27) rfl)
theorem m_348 : Cond.code y_Line_take b_Line_take 4 (some (.object "EpochStore$Message")) ∈ w_all := wi_4 (List.mem_of_getElem? (i := 28) rfl)
theorem m_349 : Cond.fieldLink Rn_ES 130 Rn_Message "type" "I" ∈ w_all := wi_4 (List.mem_of_getElem? (i := 29) rfl)
theorem m_350 : Cond.fieldLink Rn_ES 133 Rn_Message "number" "I" ∈ w_all := wi_4 (List.mem_of_getElem? (i := 30) rfl)
theorem m_351 : Cond.methodLink Rn_ES 136 y_Log_receive ∈ w_all := wi_4 (List.mem_of_getElem? (i := 31) rfl)
theorem m_352 : Cond.instanceMethod y_Log_receive ∈ w_all := wi_4 (List.mem_of_getElem? (i := 32) rfl)
theorem m_353 : Cond.selects Rn_Log y_Log_receive y_Log_receive ∈ w_all := wi_4 (List.mem_of_getElem? (i := 33) rfl)
theorem m_354 : Cond.code y_Log_receive b_Log_receive 3 none ∈ w_all := wi_4 (List.mem_of_getElem? (i := 34) rfl)
theorem m_355 : Cond.fieldLink Rn_ES 143 Rn_Message "epoch" "I" ∈ w_all := wi_4 (List.mem_of_getElem? (i := 35) rfl)
theorem m_356 : Cond.methodLink Rn_ES 146 y_ES_isMaster ∈ w_all := wi_4 (List.mem_of_getElem? (i := 36) rfl)
theorem m_357 : Cond.instanceMethod y_ES_isMaster ∈ w_all := wi_4 (List.mem_of_getElem? (i := 37) rfl)
theorem m_358 : Cond.selects Rn_ES y_ES_isMaster y_ES_isMaster ∈ w_all := wi_4 (List.mem_of_getElem? (i := 38) rfl)
theorem m_359 : Cond.code y_ES_isMaster b_ES_isMaster 2 (some .boolean) ∈ w_all := wi_4 (List.mem_of_getElem? (i := 39) rfl)
theorem m_360 : Cond.methodLink Rn_ES 149 y_Master_receive ∈ w_all := wi_4 (List.mem_of_getElem? (i := 40) rfl)
theorem m_361 : Cond.instanceMethod y_Master_receive ∈ w_all := wi_4 (List.mem_of_getElem? (i := 41) rfl)
theorem m_362 : Cond.selects Rn_Master y_Master_receive y_Master_receive ∈ w_all := wi_4 (List.mem_of_getElem? (i := 42) rfl)
theorem m_363 : Cond.code y_Master_receive b_Master_receive 3 none ∈ w_all := wi_4 (List.mem_of_getElem? (i := 43) rfl)
theorem m_364 : Cond.methodLink Rn_ES 140 y_Client_receive ∈ w_all := wi_4 (List.mem_of_getElem? (i := 44) rfl)
theorem m_365 : Cond.instanceMethod y_Client_receive ∈ w_all := wi_4 (List.mem_of_getElem? (i := 45) rfl)
theorem m_366 : Cond.selects Rn_Client y_Client_receive y_Client_receive ∈ w_all := wi_4 (List.mem_of_getElem? (i := 46) rfl)
theorem m_367 : Cond.code y_Client_receive b_Client_receive 2 none ∈ w_all := wi_4 (List.mem_of_getElem? (i := 47) rfl)
theorem m_368 : Cond.methodLink Rn_ES 196 y_ES_isCoordinator ∈ w_all := wi_4 (List.mem_of_getElem? (i := 48) rfl)
theorem m_369 : Cond.static y_ES_isCoordinator ∈ w_all := wi_4 (List.mem_of_getElem? (i := 49) rfl)
theorem m_370 : Cond.code y_ES_isCoordinator b_ES_isCoordinator 1 (some .boolean) ∈ w_all := wi_4 (List.mem_of_getElem? (i := 50) rfl)
theorem m_371 : Cond.methodLink Rn_ES 167 y_ES_isLog ∈ w_all := wi_4 (List.mem_of_getElem? (i := 51) rfl)
theorem m_372 : Cond.static y_ES_isLog ∈ w_all := wi_4 (List.mem_of_getElem? (i := 52) rfl)
theorem m_373 : Cond.code y_ES_isLog b_ES_isLog 1 (some .boolean) ∈ w_all := wi_4 (List.mem_of_getElem? (i := 53) rfl)
theorem m_374 : Cond.methodLink Rn_ES 164 y_ES_isStorage ∈ w_all := wi_4 (List.mem_of_getElem? (i := 54) rfl)
theorem m_375 : Cond.static y_ES_isStorage ∈ w_all := wi_4 (List.mem_of_getElem? (i := 55) rfl)
theorem m_376 : Cond.code y_ES_isStorage b_ES_isStorage 1 (some .boolean) ∈ w_all := wi_4 (List.mem_of_getElem? (i := 56) rfl)
theorem m_377 : Cond.fieldLink Rn_ES 178 Rn_Log "up" "Z" ∈ w_all := wi_4 (List.mem_of_getElem? (i := 57) rfl)
theorem m_378 : Cond.fieldLink Rn_ES 206 Rn_Storage "up" "Z" ∈ w_all := wi_4 (List.mem_of_getElem? (i := 58) rfl)
theorem m_379 : Cond.methodLink Rn_ES 153 y_ES_isServer ∈ w_all := wi_4 (List.mem_of_getElem? (i := 59) rfl)
theorem m_380 : Cond.static y_ES_isServer ∈ w_all := wi_4 (List.mem_of_getElem? (i := 60) rfl)
theorem m_381 : Cond.code y_ES_isServer b_ES_isServer 2 (some .boolean) ∈ w_all := wi_4 (List.mem_of_getElem? (i := 61) rfl)
theorem m_382 : Cond.methodLink Rn_ES 157 y_ES_isUp ∈ w_all := wi_4 (List.mem_of_getElem? (i := 62) rfl)
theorem m_383 : Cond.instanceMethod y_ES_isUp ∈ w_all := wi_4 (List.mem_of_getElem? (i := 63) rfl)
theorem m_384 : Cond.selects Rn_ES y_ES_isUp y_ES_isUp ∈ w_all := wi_4 (List.mem_of_getElem? (i := 64) rfl)
theorem m_385 : Cond.code y_ES_isUp b_ES_isUp 3 (some .boolean) ∈ w_all := wi_4 (List.mem_of_getElem? (i := 65) rfl)
theorem m_386 : Cond.methodLink Rn_ES 160 y_ES_setUp ∈ w_all := wi_4 (List.mem_of_getElem? (i := 66) rfl)
theorem m_387 : Cond.instanceMethod y_ES_setUp ∈ w_all := wi_4 (List.mem_of_getElem? (i := 67) rfl)
theorem m_388 : Cond.selects Rn_ES y_ES_setUp y_ES_setUp ∈ w_all := wi_4 (List.mem_of_getElem? (i := 68) rfl)
theorem m_389 : Cond.code y_ES_setUp b_ES_setUp 4 none ∈ w_all := wi_4 (List.mem_of_getElem? (i := 69) rfl)
theorem m_390 : Cond.methodLink Rn_ES 150 y_ES_stopMaster ∈ w_all := wi_4 (List.mem_of_getElem? (i := 70) rfl)
theorem m_391 : Cond.instanceMethod y_ES_stopMaster ∈ w_all := wi_4 (List.mem_of_getElem? (i := 71) rfl)
theorem m_392 : Cond.selects Rn_ES y_ES_stopMaster y_ES_stopMaster ∈ w_all := wi_4 (List.mem_of_getElem? (i := 72) rfl)
theorem m_393 : Cond.code y_ES_stopMaster b_ES_stopMaster 2 (some .boolean) ∈ w_all := wi_4 (List.mem_of_getElem? (i := 73) rfl)
theorem m_394 : Cond.methodLink Rn_Storage 67 Lib.Math.min.name ∈ w_all := wi_4 (List.mem_of_getElem? (i := 74) rfl)
theorem m_395 : Cond.static Lib.Math.min.name ∈ w_all := wi_4 (List.mem_of_getElem? (i := 75) rfl)
theorem m_396 : Cond.code Lib.Math.min.name Lib.Math.min.code 2 (some .int) ∈ w_all := wi_4 (List.mem_of_getElem? (i := 76) rfl)
theorem m_397 : Cond.fieldLink Rn_Storage 74 Rn_Writes "keys" "I" ∈ w_all := wi_4 (List.mem_of_getElem? (i := 77) rfl)
theorem m_398 : Cond.fieldLink Rn_Storage 35 Rn_Log "up" "Z" ∈ w_all := wi_4 (List.mem_of_getElem? (i := 78) rfl)
theorem m_399 : Cond.fieldLink Rn_Storage 38 Rn_Log "epoch" "I" ∈ w_all := wi_4 (List.mem_of_getElem? (i := 79) rfl)
theorem m_400 : Cond.fieldLink Rn_Storage 39 Rn_Log "bases" "[I" ∈ w_all := wi_5 (List.mem_of_getElem? (i := 0) rfl)
theorem m_401 : Cond.methodLink Rn_Storage 43 y_Storage_goBackTo ∈ w_all := wi_5 (List.mem_of_getElem? (i := 1) rfl)
theorem m_402 : Cond.instanceMethod y_Storage_goBackTo ∈ w_all := wi_5 (List.mem_of_getElem? (i := 2) rfl)
theorem m_403 : Cond.selects Rn_Storage y_Storage_goBackTo y_Storage_goBackTo ∈ w_all := wi_5 (List.mem_of_getElem? (i := 3) rfl)
theorem m_404 : Cond.code y_Storage_goBackTo b_Storage_goBackTo 2 none ∈ w_all := wi_5 (List.mem_of_getElem? (i := 4) rfl)
theorem m_405 : Cond.methodLink Rn_Storage 47 y_Log_firstAbove ∈ w_all := wi_5 (List.mem_of_getElem? (i := 5) rfl)
theorem m_406 : Cond.instanceMethod y_Log_firstAbove ∈ w_all := wi_5 (List.mem_of_getElem? (i := 6) rfl)
theorem m_407 : Cond.selects Rn_Log y_Log_firstAbove y_Log_firstAbove ∈ w_all := wi_5 (List.mem_of_getElem? (i := 7) rfl)
theorem m_408 : Cond.code y_Log_firstAbove b_Log_firstAbove 3 (some (.object "EpochStore$Entry")) ∈ w_all := wi_5 (List.mem_of_getElem? (i := 8) rfl)
theorem m_409 : Cond.fieldLink Rn_Storage 58 Rn_Log "end" "I" ∈ w_all := wi_5 (List.mem_of_getElem? (i := 9) rfl)
theorem m_410 : Cond.methodLink Rn_Storage 61 Lib.Math.max.name ∈ w_all := wi_5 (List.mem_of_getElem? (i := 10) rfl)
theorem m_411 : Cond.methodLink Rn_Storage 51 y_Storage_keep ∈ w_all := wi_5 (List.mem_of_getElem? (i := 11) rfl)
theorem m_412 : Cond.instanceMethod y_Storage_keep ∈ w_all := wi_5 (List.mem_of_getElem? (i := 12) rfl)
theorem m_413 : Cond.selects Rn_Storage y_Storage_keep y_Storage_keep ∈ w_all := wi_5 (List.mem_of_getElem? (i := 13) rfl)
theorem m_414 : Cond.code y_Storage_keep b_Storage_keep 2 none ∈ w_all := wi_5 (List.mem_of_getElem? (i := 14) rfl)
theorem m_415 : Cond.methodLink Rn_ES 170 y_Storage_advanceFrom ∈ w_all := wi_5 (List.mem_of_getElem? (i := 15) rfl)
theorem m_416 : Cond.instanceMethod y_Storage_advanceFrom ∈ w_all := wi_5 (List.mem_of_getElem? (i := 16) rfl)
theorem m_417 : Cond.selects Rn_Storage y_Storage_advanceFrom y_Storage_advanceFrom ∈ w_all := wi_5 (List.mem_of_getElem? (i := 17) rfl)
theorem m_418 : Cond.code y_Storage_advanceFrom b_Storage_advanceFrom 3 (some .int) ∈ w_all := wi_5 (List.mem_of_getElem? (i := 18) rfl)
theorem m_419 : Cond.methodLink Rn_ES 174 y_Master_pushAgain ∈ w_all := wi_5 (List.mem_of_getElem? (i := 19) rfl)
theorem m_420 : Cond.instanceMethod y_Master_pushAgain ∈ w_all := wi_5 (List.mem_of_getElem? (i := 20) rfl)
theorem m_421 : Cond.selects Rn_Master y_Master_pushAgain y_Master_pushAgain ∈ w_all := wi_5 (List.mem_of_getElem? (i := 21) rfl)
theorem m_422 : Cond.code y_Master_pushAgain b_Master_pushAgain 4 (some .int) ∈ w_all := wi_5 (List.mem_of_getElem? (i := 22) rfl)
theorem m_423 : Cond.fieldLink Rn_ES 227 Rn_Log "end" "I" ∈ w_all := wi_5 (List.mem_of_getElem? (i := 23) rfl)
theorem m_424 : Cond.methodLink Rn_ES 230 y_Log_copyFrom ∈ w_all := wi_5 (List.mem_of_getElem? (i := 24) rfl)
theorem m_425 : Cond.instanceMethod y_Log_copyFrom ∈ w_all := wi_5 (List.mem_of_getElem? (i := 25) rfl)
theorem m_426 : Cond.selects Rn_Log y_Log_copyFrom y_Log_copyFrom ∈ w_all := wi_5 (List.mem_of_getElem? (i := 26) rfl)
theorem m_427 : Cond.code y_Log_copyFrom b_Log_copyFrom 3 none ∈ w_all := wi_5 (List.mem_of_getElem? (i := 27) rfl)
theorem m_428 : Cond.methodLink Rn_ES 234 y_Log_enter ∈ w_all := wi_5 (List.mem_of_getElem? (i := 28) rfl)
theorem m_429 : Cond.instanceMethod y_Log_enter ∈ w_all := wi_5 (List.mem_of_getElem? (i := 29) rfl)
theorem m_430 : Cond.selects Rn_Log y_Log_enter y_Log_enter ∈ w_all := wi_5 (List.mem_of_getElem? (i := 30) rfl)
theorem m_431 : Cond.code y_Log_enter b_Log_enter 4 none ∈ w_all := wi_5 (List.mem_of_getElem? (i := 31) rfl)
theorem m_432 : Cond.fieldLink Rn_ES 182 Rn_Log "epoch" "I" ∈ w_all := wi_5 (List.mem_of_getElem? (i := 32) rfl)
theorem m_433 : Cond.methodLink Rn_ES 183 y_ES_raiseCoordinators ∈ w_all := wi_5 (List.mem_of_getElem? (i := 33) rfl)
theorem m_434 : Cond.instanceMethod y_ES_raiseCoordinators ∈ w_all := wi_5 (List.mem_of_getElem? (i := 34) rfl)
theorem m_435 : Cond.selects Rn_ES y_ES_raiseCoordinators y_ES_raiseCoordinators ∈ w_all := wi_5 (List.mem_of_getElem? (i := 35) rfl)
theorem m_436 : Cond.code y_ES_raiseCoordinators b_ES_raiseCoordinators 3 none ∈ w_all := wi_5 (List.mem_of_getElem? (i := 36) rfl)
theorem m_437 : Cond.methodLink Rn_ES 186 y_ES_beginEpoch ∈ w_all := wi_5 (List.mem_of_getElem? (i := 37) rfl)
theorem m_438 : Cond.instanceMethod y_ES_beginEpoch ∈ w_all := wi_5 (List.mem_of_getElem? (i := 38) rfl)
theorem m_439 : Cond.selects Rn_ES y_ES_beginEpoch y_ES_beginEpoch ∈ w_all := wi_5 (List.mem_of_getElem? (i := 39) rfl)
theorem m_440 : Cond.code y_ES_beginEpoch b_ES_beginEpoch 7 none ∈ w_all := wi_5 (List.mem_of_getElem? (i := 40) rfl)
theorem m_441 : Cond.constant Rn_Log 38 (1073741824) ∈ w_all := wi_5 (List.mem_of_getElem? (i := 41) rfl)
theorem m_442 : Cond.methodLink Rn_ES 190 y_Log_code ∈ w_all := wi_5 (List.mem_of_getElem? (i := 42) rfl)
theorem m_443 : Cond.instanceMethod y_Log_code ∈ w_all := wi_5 (List.mem_of_getElem? (i := 43) rfl)
theorem m_444 : Cond.selects Rn_Log y_Log_code y_Log_code ∈ w_all := wi_5 (List.mem_of_getElem? (i := 44) rfl)
theorem m_445 : Cond.code y_Log_code b_Log_code 1 (some .int) ∈ w_all := wi_5 (List.mem_of_getElem? (i := 45) rfl)
theorem m_446 : Cond.constant Rn_Storage 34 (1073741824) ∈ w_all := wi_5 (List.mem_of_getElem? (i := 46) rfl)
theorem m_447 : Cond.methodLink Rn_ES 191 y_Storage_code ∈ w_all := wi_5 (List.mem_of_getElem? (i := 47) rfl)
theorem m_448 : Cond.instanceMethod y_Storage_code ∈ w_all := wi_5 (List.mem_of_getElem? (i := 48) rfl)
theorem m_449 : Cond.selects Rn_Storage y_Storage_code y_Storage_code ∈ w_all := wi_5 (List.mem_of_getElem? (i := 49) rfl)
theorem m_450 : Cond.code y_Storage_code b_Storage_code 1 (some .int) ∈ w_all := wi_5 (List.mem_of_getElem? (i := 50) rfl)
theorem m_451 : Cond.methodLink Rn_ES 192 y_Master_code ∈ w_all := wi_5 (List.mem_of_getElem? (i := 51) rfl)
theorem m_452 : Cond.instanceMethod y_Master_code ∈ w_all := wi_5 (List.mem_of_getElem? (i := 52) rfl)
theorem m_453 : Cond.selects Rn_Master y_Master_code y_Master_code ∈ w_all := wi_5 (List.mem_of_getElem? (i := 53) rfl)
theorem m_454 : Cond.code y_Master_code b_Master_code 1 (some .int) ∈ w_all := wi_5 (List.mem_of_getElem? (i := 54) rfl)
theorem m_455 : Cond.fieldLink Rn_ES 193 Rn_Master "committed" "I" ∈ w_all := wi_5 (List.mem_of_getElem? (i := 55) rfl)
theorem m_456 : Cond.methodLink Rn_ES 199 y_Coordinator_code ∈ w_all := wi_5 (List.mem_of_getElem? (i := 56) rfl)
theorem m_457 : Cond.instanceMethod y_Coordinator_code ∈ w_all := wi_5 (List.mem_of_getElem? (i := 57) rfl)
theorem m_458 : Cond.selects Rn_Coordinator y_Coordinator_code y_Coordinator_code ∈ w_all := wi_5 (List.mem_of_getElem? (i := 58) rfl)
theorem m_459 : Cond.code y_Coordinator_code b_Coordinator_code 1 (some .int) ∈ w_all := wi_5 (List.mem_of_getElem? (i := 59) rfl)
theorem m_460 : Cond.methodLink Rn_EM 1 objectInit ∈ w_all := wi_5 (List.mem_of_getElem? (i := 60) rfl)
theorem m_461 : Cond.fieldLink Rn_EM 7 Rn_EM "known" "[I" ∈ w_all := wi_5 (List.mem_of_getElem? (i := 61) rfl)
theorem m_462 : Cond.arrayClass .boolean ∈ w_all := wi_5 (List.mem_of_getElem? (i := 62) rfl)
theorem m_463 : Cond.fieldLink Rn_EM 13 Rn_EM "coordinatorUp" "[Z" ∈ w_all := wi_5 (List.mem_of_getElem? (i := 63) rfl)
theorem m_464 : Cond.fieldLink Rn_EM 17 Rn_EM "logEpoch" "[I" ∈ w_all := wi_5 (List.mem_of_getElem? (i := 64) rfl)
theorem m_465 : Cond.fieldLink Rn_EM 20 Rn_EM "logUp" "[Z" ∈ w_all := wi_5 (List.mem_of_getElem? (i := 65) rfl)
theorem m_466 : Cond.fieldLink Rn_EM 23 Rn_EM "logEnd" "[I" ∈ w_all := wi_5 (List.mem_of_getElem? (i := 66) rfl)
theorem m_467 : Cond.fieldLink Rn_EM 26 Rn_EM "logMany" "[I" ∈ w_all := wi_5 (List.mem_of_getElem? (i := 67) rfl)
theorem m_468 : Cond.fieldLink Rn_EM 29 Rn_EM "logVersion" "[I" ∈ w_all := wi_5 (List.mem_of_getElem? (i := 68) rfl)
theorem m_469 : Cond.fieldLink Rn_EM 32 Rn_EM "logMask" "[I" ∈ w_all := wi_5 (List.mem_of_getElem? (i := 69) rfl)
theorem m_470 : Cond.fieldLink Rn_EM 35 Rn_EM "logValue" "[I" ∈ w_all := wi_5 (List.mem_of_getElem? (i := 70) rfl)
theorem m_471 : Cond.fieldLink Rn_EM 38 Rn_EM "base" "[I" ∈ w_all := wi_5 (List.mem_of_getElem? (i := 71) rfl)
theorem m_472 : Cond.fieldLink Rn_EM 41 Rn_EM "storeEpoch" "[I" ∈ w_all := wi_5 (List.mem_of_getElem? (i := 72) rfl)
theorem m_473 : Cond.fieldLink Rn_EM 44 Rn_EM "storeUp" "[Z" ∈ w_all := wi_5 (List.mem_of_getElem? (i := 73) rfl)
theorem m_474 : Cond.fieldLink Rn_EM 47 Rn_EM "storeAt" "[I" ∈ w_all := wi_5 (List.mem_of_getElem? (i := 74) rfl)
theorem m_475 : Cond.fieldLink Rn_EM 50 Rn_EM "storeMany" "[I" ∈ w_all := wi_5 (List.mem_of_getElem? (i := 75) rfl)
theorem m_476 : Cond.fieldLink Rn_EM 53 Rn_EM "storeVersion" "[I" ∈ w_all := wi_5 (List.mem_of_getElem? (i := 76) rfl)
theorem m_477 : Cond.fieldLink Rn_EM 56 Rn_EM "storeMask" "[I" ∈ w_all := wi_5 (List.mem_of_getElem? (i := 77) rfl)
theorem m_478 : Cond.fieldLink Rn_EM 59 Rn_EM "storeValue" "[I" ∈ w_all := wi_5 (List.mem_of_getElem? (i := 78) rfl)
theorem m_479 : Cond.fieldLink Rn_EM 62 Rn_EM "there" "[Z" ∈ w_all := wi_5 (List.mem_of_getElem? (i := 79) rfl)
theorem m_480 : Cond.fieldLink Rn_EM 65 Rn_EM "logsOf" "[I" ∈ w_all := wi_6 (List.mem_of_getElem? (i := 0) rfl)
theorem m_481 : Cond.fieldLink Rn_EM 68 Rn_EM "startOf" "[I" ∈ w_all := wi_6 (List.mem_of_getElem? (i := 1) rfl)
theorem m_482 : Cond.fieldLink Rn_EM 71 Rn_EM "lastOf" "[I" ∈ w_all := wi_6 (List.mem_of_getElem? (i := 2) rfl)
theorem m_483 : Cond.fieldLink Rn_EM 74 Rn_EM "pushedOf" "[I" ∈ w_all := wi_6 (List.mem_of_getElem? (i := 3) rfl)
theorem m_484 : Cond.fieldLink Rn_EM 77 Rn_EM "doneOf" "[I" ∈ w_all := wi_6 (List.mem_of_getElem? (i := 4) rfl)
theorem m_485 : Cond.fieldLink Rn_EM 80 Rn_EM "latest" "[I" ∈ w_all := wi_6 (List.mem_of_getElem? (i := 5) rfl)
theorem m_486 : Cond.fieldLink Rn_EM 83 Rn_EM "asked" "[I" ∈ w_all := wi_6 (List.mem_of_getElem? (i := 6) rfl)
theorem m_487 : Cond.fieldLink Rn_EM 86 Rn_EM "questions" "[I" ∈ w_all := wi_6 (List.mem_of_getElem? (i := 7) rfl)
theorem m_488 : Cond.fieldLink Rn_EM 89 Rn_EM "questionNumber" "[I" ∈ w_all := wi_6 (List.mem_of_getElem? (i := 8) rfl)
theorem m_489 : Cond.fieldLink Rn_EM 92 Rn_EM "questionClient" "[I" ∈ w_all := wi_6 (List.mem_of_getElem? (i := 9) rfl)
theorem m_490 : Cond.fieldLink Rn_EM 95 Rn_EM "questionTurn" "[I" ∈ w_all := wi_6 (List.mem_of_getElem? (i := 10) rfl)
theorem m_491 : Cond.fieldLink Rn_EM 98 Rn_EM "questionHas" "[I" ∈ w_all := wi_6 (List.mem_of_getElem? (i := 11) rfl)
theorem m_492 : Cond.fieldLink Rn_EM 101 Rn_EM "ways" "[I" ∈ w_all := wi_6 (List.mem_of_getElem? (i := 12) rfl)
theorem m_493 : Cond.fieldLink Rn_EM 104 Rn_EM "wayVersion" "[I" ∈ w_all := wi_6 (List.mem_of_getElem? (i := 13) rfl)
theorem m_494 : Cond.fieldLink Rn_EM 107 Rn_EM "wayBefore" "[I" ∈ w_all := wi_6 (List.mem_of_getElem? (i := 14) rfl)
theorem m_495 : Cond.fieldLink Rn_EM 110 Rn_EM "wayMask" "[I" ∈ w_all := wi_6 (List.mem_of_getElem? (i := 15) rfl)
theorem m_496 : Cond.fieldLink Rn_EM 113 Rn_EM "wayValue" "[I" ∈ w_all := wi_6 (List.mem_of_getElem? (i := 16) rfl)
theorem m_497 : Cond.fieldLink Rn_EM 116 Rn_EM "wayHas" "[I" ∈ w_all := wi_6 (List.mem_of_getElem? (i := 17) rfl)
theorem m_498 : Cond.fieldLink Rn_EM 119 Rn_EM "wayClient" "[I" ∈ w_all := wi_6 (List.mem_of_getElem? (i := 18) rfl)
theorem m_499 : Cond.fieldLink Rn_EM 122 Rn_EM "wayTurn" "[I" ∈ w_all := wi_6 (List.mem_of_getElem? (i := 19) rfl)
theorem m_500 : Cond.fieldLink Rn_EM 125 Rn_EM "clientEpoch" "[I" ∈ w_all := wi_6 (List.mem_of_getElem? (i := 20) rfl)
theorem m_501 : Cond.fieldLink Rn_EM 128 Rn_EM "turn" "[I" ∈ w_all := wi_6 (List.mem_of_getElem? (i := 21) rfl)
theorem m_502 : Cond.fieldLink Rn_EM 131 Rn_EM "state" "[I" ∈ w_all := wi_6 (List.mem_of_getElem? (i := 22) rfl)
theorem m_503 : Cond.fieldLink Rn_EM 134 Rn_EM "readAt" "[I" ∈ w_all := wi_6 (List.mem_of_getElem? (i := 23) rfl)
theorem m_504 : Cond.fieldLink Rn_EM 137 Rn_EM "begunAt" "[I" ∈ w_all := wi_6 (List.mem_of_getElem? (i := 24) rfl)
theorem m_505 : Cond.fieldLink Rn_EM 140 Rn_EM "noted" "[I" ∈ w_all := wi_6 (List.mem_of_getElem? (i := 25) rfl)
theorem m_506 : Cond.fieldLink Rn_EM 143 Rn_EM "written" "[I" ∈ w_all := wi_6 (List.mem_of_getElem? (i := 26) rfl)
theorem m_507 : Cond.fieldLink Rn_EM 146 Rn_EM "value" "[I" ∈ w_all := wi_6 (List.mem_of_getElem? (i := 27) rfl)
theorem m_508 : Cond.fieldLink Rn_EM 149 Rn_EM "won" "[I" ∈ w_all := wi_6 (List.mem_of_getElem? (i := 28) rfl)
theorem m_509 : Cond.fieldLink Rn_EM 152 Rn_EM "type" "[I" ∈ w_all := wi_6 (List.mem_of_getElem? (i := 29) rfl)
theorem m_510 : Cond.fieldLink Rn_EM 155 Rn_EM "who" "[I" ∈ w_all := wi_6 (List.mem_of_getElem? (i := 30) rfl)
theorem m_511 : Cond.fieldLink Rn_EM 158 Rn_EM "epoch" "[I" ∈ w_all := wi_6 (List.mem_of_getElem? (i := 31) rfl)
theorem m_512 : Cond.fieldLink Rn_EM 161 Rn_EM "version" "[I" ∈ w_all := wi_6 (List.mem_of_getElem? (i := 32) rfl)
theorem m_513 : Cond.fieldLink Rn_EM 164 Rn_EM "number" "[I" ∈ w_all := wi_6 (List.mem_of_getElem? (i := 33) rfl)
theorem m_514 : Cond.fieldLink Rn_EM 167 Rn_EM "other" "[I" ∈ w_all := wi_6 (List.mem_of_getElem? (i := 34) rfl)
theorem m_515 : Cond.fieldLink Rn_EM 170 Rn_EM "mask" "[I" ∈ w_all := wi_6 (List.mem_of_getElem? (i := 35) rfl)
theorem m_516 : Cond.fieldLink Rn_EM 173 Rn_EM "content" "[I" ∈ w_all := wi_6 (List.mem_of_getElem? (i := 36) rfl)
theorem m_517 : Cond.fieldLink Rn_EM 176 Rn_EM "lines" "I" ∈ w_all := wi_6 (List.mem_of_getElem? (i := 37) rfl)
theorem m_518 : Cond.methodLink Rn_EM 180 y_EM_copyMessage ∈ w_all := wi_6 (List.mem_of_getElem? (i := 38) rfl)
theorem m_519 : Cond.instanceMethod y_EM_copyMessage ∈ w_all := wi_6 (List.mem_of_getElem? (i := 39) rfl)
theorem m_520 : Cond.selects Rn_EM y_EM_copyMessage y_EM_copyMessage ∈ w_all := wi_6 (List.mem_of_getElem? (i := 40) rfl)
theorem m_521 : Cond.initialized Rn_EM ∈ w_all := wi_6 (List.mem_of_getElem? (i := 41) rfl)
theorem m_522 : Cond.code y_EM_copyMessage b_EM_copyMessage 4 none ∈ w_all := wi_6 (List.mem_of_getElem? (i := 42) rfl)
theorem m_523 : Cond.constant Rn_EM 184 (65536) ∈ w_all := wi_6 (List.mem_of_getElem? (i := 43) rfl)
theorem m_524 : Cond.methodLink Rn_EM 185 y_EM_take ∈ w_all := wi_6 (List.mem_of_getElem? (i := 44) rfl)
theorem m_525 : Cond.instanceMethod y_EM_take ∈ w_all := wi_6 (List.mem_of_getElem? (i := 45) rfl)
theorem m_526 : Cond.selects Rn_EM y_EM_take y_EM_take ∈ w_all := wi_6 (List.mem_of_getElem? (i := 46) rfl)
theorem m_527 : Cond.code y_EM_take b_EM_take 3 none ∈ w_all := wi_6 (List.mem_of_getElem? (i := 47) rfl)
theorem m_528 : Cond.methodLink Rn_EM 193 y_EM_send ∈ w_all := wi_6 (List.mem_of_getElem? (i := 48) rfl)
theorem m_529 : Cond.instanceMethod y_EM_send ∈ w_all := wi_6 (List.mem_of_getElem? (i := 49) rfl)
theorem m_530 : Cond.selects Rn_EM y_EM_send y_EM_send ∈ w_all := wi_6 (List.mem_of_getElem? (i := 50) rfl)
theorem m_531 : Cond.code y_EM_send b_EM_send 7 (some .int) ∈ w_all := wi_6 (List.mem_of_getElem? (i := 51) rfl)
theorem m_532 : Cond.methodLink Rn_EM 220 y_EM_finds ∈ w_all := wi_6 (List.mem_of_getElem? (i := 52) rfl)
theorem m_533 : Cond.instanceMethod y_EM_finds ∈ w_all := wi_6 (List.mem_of_getElem? (i := 53) rfl)
theorem m_534 : Cond.selects Rn_EM y_EM_finds y_EM_finds ∈ w_all := wi_6 (List.mem_of_getElem? (i := 54) rfl)
theorem m_535 : Cond.code y_EM_finds b_EM_finds 6 (some .boolean) ∈ w_all := wi_6 (List.mem_of_getElem? (i := 55) rfl)
theorem m_536 : Cond.methodLink Rn_EM 224 y_EM_pushOut ∈ w_all := wi_6 (List.mem_of_getElem? (i := 56) rfl)
theorem m_537 : Cond.instanceMethod y_EM_pushOut ∈ w_all := wi_6 (List.mem_of_getElem? (i := 57) rfl)
theorem m_538 : Cond.selects Rn_EM y_EM_pushOut y_EM_pushOut ∈ w_all := wi_6 (List.mem_of_getElem? (i := 58) rfl)
theorem m_539 : Cond.code y_EM_pushOut b_EM_pushOut 7 (some .int) ∈ w_all := wi_6 (List.mem_of_getElem? (i := 59) rfl)
theorem m_540 : Cond.methodLink Rn_EM 217 y_EM_result ∈ w_all := wi_6 (List.mem_of_getElem? (i := 60) rfl)
theorem m_541 : Cond.instanceMethod y_EM_result ∈ w_all := wi_6 (List.mem_of_getElem? (i := 61) rfl)
theorem m_542 : Cond.selects Rn_EM y_EM_result y_EM_result ∈ w_all := wi_6 (List.mem_of_getElem? (i := 62) rfl)
theorem m_543 : Cond.code y_EM_result b_EM_result 7 none ∈ w_all := wi_6 (List.mem_of_getElem? (i := 63) rfl)
theorem m_544 : Cond.methodLink Rn_EM 228 y_EM_copyWay ∈ w_all := wi_6 (List.mem_of_getElem? (i := 64) rfl)
theorem m_545 : Cond.instanceMethod y_EM_copyWay ∈ w_all := wi_6 (List.mem_of_getElem? (i := 65) rfl)
theorem m_546 : Cond.selects Rn_EM y_EM_copyWay y_EM_copyWay ∈ w_all := wi_6 (List.mem_of_getElem? (i := 66) rfl)
theorem m_547 : Cond.code y_EM_copyWay b_EM_copyWay 3 none ∈ w_all := wi_6 (List.mem_of_getElem? (i := 67) rfl)
theorem m_548 : Cond.methodLink Rn_EM 214 y_EM_acknowledged ∈ w_all := wi_6 (List.mem_of_getElem? (i := 68) rfl)
theorem m_549 : Cond.instanceMethod y_EM_acknowledged ∈ w_all := wi_6 (List.mem_of_getElem? (i := 69) rfl)
theorem m_550 : Cond.selects Rn_EM y_EM_acknowledged y_EM_acknowledged ∈ w_all := wi_6 (List.mem_of_getElem? (i := 70) rfl)
theorem m_551 : Cond.code y_EM_acknowledged b_EM_acknowledged 7 none ∈ w_all := wi_6 (List.mem_of_getElem? (i := 71) rfl)
theorem m_552 : Cond.methodLink Rn_EM 210 y_EM_judge ∈ w_all := wi_6 (List.mem_of_getElem? (i := 72) rfl)
theorem m_553 : Cond.instanceMethod y_EM_judge ∈ w_all := wi_6 (List.mem_of_getElem? (i := 73) rfl)
theorem m_554 : Cond.selects Rn_EM y_EM_judge y_EM_judge ∈ w_all := wi_6 (List.mem_of_getElem? (i := 74) rfl)
theorem m_555 : Cond.code y_EM_judge b_EM_judge 9 none ∈ w_all := wi_6 (List.mem_of_getElem? (i := 75) rfl)
theorem m_556 : Cond.methodLink Rn_EM 207 y_EM_confirmed ∈ w_all := wi_6 (List.mem_of_getElem? (i := 76) rfl)
theorem m_557 : Cond.instanceMethod y_EM_confirmed ∈ w_all := wi_6 (List.mem_of_getElem? (i := 77) rfl)
theorem m_558 : Cond.selects Rn_EM y_EM_confirmed y_EM_confirmed ∈ w_all := wi_6 (List.mem_of_getElem? (i := 78) rfl)
theorem m_559 : Cond.code y_EM_confirmed b_EM_confirmed 6 none ∈ w_all := wi_6 (List.mem_of_getElem? (i := 79) rfl)
theorem m_560 : Cond.methodLink Rn_EM 204 y_EM_ask ∈ w_all := wi_7 (List.mem_of_getElem? (i := 0) rfl)
theorem m_561 : Cond.instanceMethod y_EM_ask ∈ w_all := wi_7 (List.mem_of_getElem? (i := 1) rfl)
theorem m_562 : Cond.selects Rn_EM y_EM_ask y_EM_ask ∈ w_all := wi_7 (List.mem_of_getElem? (i := 2) rfl)
theorem m_563 : Cond.code y_EM_ask b_EM_ask 6 none ∈ w_all := wi_7 (List.mem_of_getElem? (i := 3) rfl)
theorem m_564 : Cond.methodLink Rn_EM 200 y_EM_toMaster ∈ w_all := wi_7 (List.mem_of_getElem? (i := 4) rfl)
theorem m_565 : Cond.instanceMethod y_EM_toMaster ∈ w_all := wi_7 (List.mem_of_getElem? (i := 5) rfl)
theorem m_566 : Cond.selects Rn_EM y_EM_toMaster y_EM_toMaster ∈ w_all := wi_7 (List.mem_of_getElem? (i := 6) rfl)
theorem m_567 : Cond.code y_EM_toMaster b_EM_toMaster 6 none ∈ w_all := wi_7 (List.mem_of_getElem? (i := 7) rfl)
theorem m_568 : Cond.methodLink Rn_EM 197 y_EM_pushed ∈ w_all := wi_7 (List.mem_of_getElem? (i := 8) rfl)
theorem m_569 : Cond.instanceMethod y_EM_pushed ∈ w_all := wi_7 (List.mem_of_getElem? (i := 9) rfl)
theorem m_570 : Cond.selects Rn_EM y_EM_pushed y_EM_pushed ∈ w_all := wi_7 (List.mem_of_getElem? (i := 10) rfl)
theorem m_571 : Cond.code y_EM_pushed b_EM_pushed 6 none ∈ w_all := wi_7 (List.mem_of_getElem? (i := 11) rfl)
theorem m_572 : Cond.methodLink Rn_EM 189 y_EM_hand ∈ w_all := wi_7 (List.mem_of_getElem? (i := 12) rfl)
theorem m_573 : Cond.instanceMethod y_EM_hand ∈ w_all := wi_7 (List.mem_of_getElem? (i := 13) rfl)
theorem m_574 : Cond.selects Rn_EM y_EM_hand y_EM_hand ∈ w_all := wi_7 (List.mem_of_getElem? (i := 14) rfl)
theorem m_575 : Cond.code y_EM_hand b_EM_hand 6 none ∈ w_all := wi_7 (List.mem_of_getElem? (i := 15) rfl)
theorem m_576 : Cond.methodLink Rn_EM 231 y_EM_isMaster ∈ w_all := wi_7 (List.mem_of_getElem? (i := 16) rfl)
theorem m_577 : Cond.instanceMethod y_EM_isMaster ∈ w_all := wi_7 (List.mem_of_getElem? (i := 17) rfl)
theorem m_578 : Cond.selects Rn_EM y_EM_isMaster y_EM_isMaster ∈ w_all := wi_7 (List.mem_of_getElem? (i := 18) rfl)
theorem m_579 : Cond.code y_EM_isMaster b_EM_isMaster 2 (some .boolean) ∈ w_all := wi_7 (List.mem_of_getElem? (i := 19) rfl)
theorem m_580 : Cond.methodLink Rn_EM 235 y_EM_isClient ∈ w_all := wi_7 (List.mem_of_getElem? (i := 20) rfl)
theorem m_581 : Cond.static y_EM_isClient ∈ w_all := wi_7 (List.mem_of_getElem? (i := 21) rfl)
theorem m_582 : Cond.code y_EM_isClient b_EM_isClient 1 (some .boolean) ∈ w_all := wi_7 (List.mem_of_getElem? (i := 22) rfl)
theorem m_583 : Cond.methodLink Rn_EM 238 y_EM_coordinatorsUp ∈ w_all := wi_7 (List.mem_of_getElem? (i := 23) rfl)
theorem m_584 : Cond.instanceMethod y_EM_coordinatorsUp ∈ w_all := wi_7 (List.mem_of_getElem? (i := 24) rfl)
theorem m_585 : Cond.selects Rn_EM y_EM_coordinatorsUp y_EM_coordinatorsUp ∈ w_all := wi_7 (List.mem_of_getElem? (i := 25) rfl)
theorem m_586 : Cond.code y_EM_coordinatorsUp b_EM_coordinatorsUp 3 (some .int) ∈ w_all := wi_7 (List.mem_of_getElem? (i := 26) rfl)
theorem m_587 : Cond.methodLink Rn_EM 242 y_EM_greatest ∈ w_all := wi_7 (List.mem_of_getElem? (i := 27) rfl)
theorem m_588 : Cond.instanceMethod y_EM_greatest ∈ w_all := wi_7 (List.mem_of_getElem? (i := 28) rfl)
theorem m_589 : Cond.selects Rn_EM y_EM_greatest y_EM_greatest ∈ w_all := wi_7 (List.mem_of_getElem? (i := 29) rfl)
theorem m_590 : Cond.code y_EM_greatest b_EM_greatest 3 (some .int) ∈ w_all := wi_7 (List.mem_of_getElem? (i := 30) rfl)
theorem m_591 : Cond.constantLong Rn_EM 247 (1099511627777) ∈ w_all := wi_7 (List.mem_of_getElem? (i := 31) rfl)
theorem m_592 : Cond.constantLong Rn_EM 249 (1099511627778) ∈ w_all := wi_7 (List.mem_of_getElem? (i := 32) rfl)
theorem m_593 : Cond.constantLong Rn_EM 245 (1099511627776) ∈ w_all := wi_7 (List.mem_of_getElem? (i := 33) rfl)
theorem m_594 : Cond.methodLink Rn_EM 251 y_EM_isOpen ∈ w_all := wi_7 (List.mem_of_getElem? (i := 34) rfl)
theorem m_595 : Cond.instanceMethod y_EM_isOpen ∈ w_all := wi_7 (List.mem_of_getElem? (i := 35) rfl)
theorem m_596 : Cond.selects Rn_EM y_EM_isOpen y_EM_isOpen ∈ w_all := wi_7 (List.mem_of_getElem? (i := 36) rfl)
theorem m_597 : Cond.code y_EM_isOpen b_EM_isOpen 2 (some .boolean) ∈ w_all := wi_7 (List.mem_of_getElem? (i := 37) rfl)
theorem m_598 : Cond.constantLong Rn_EM 254 (-1) ∈ w_all := wi_7 (List.mem_of_getElem? (i := 38) rfl)
theorem m_599 : Cond.methodLink Rn_EM 256 y_EM_wrote ∈ w_all := wi_7 (List.mem_of_getElem? (i := 39) rfl)
theorem m_600 : Cond.instanceMethod y_EM_wrote ∈ w_all := wi_7 (List.mem_of_getElem? (i := 40) rfl)
theorem m_601 : Cond.selects Rn_EM y_EM_wrote y_EM_wrote ∈ w_all := wi_7 (List.mem_of_getElem? (i := 41) rfl)
theorem m_602 : Cond.code y_EM_wrote b_EM_wrote 3 (some .boolean) ∈ w_all := wi_7 (List.mem_of_getElem? (i := 42) rfl)
theorem m_603 : Cond.methodLink Rn_EM 260 y_EM_reading ∈ w_all := wi_7 (List.mem_of_getElem? (i := 43) rfl)
theorem m_604 : Cond.instanceMethod y_EM_reading ∈ w_all := wi_7 (List.mem_of_getElem? (i := 44) rfl)
theorem m_605 : Cond.selects Rn_EM y_EM_reading y_EM_reading ∈ w_all := wi_7 (List.mem_of_getElem? (i := 45) rfl)
theorem m_606 : Cond.code y_EM_reading b_EM_reading 7 (some .long) ∈ w_all := wi_7 (List.mem_of_getElem? (i := 46) rfl)
theorem m_607 : Cond.methodLink Rn_EM 264 y_EM_join ∈ w_all := wi_7 (List.mem_of_getElem? (i := 47) rfl)
theorem m_608 : Cond.instanceMethod y_EM_join ∈ w_all := wi_7 (List.mem_of_getElem? (i := 48) rfl)
theorem m_609 : Cond.selects Rn_EM y_EM_join y_EM_join ∈ w_all := wi_7 (List.mem_of_getElem? (i := 49) rfl)
theorem m_610 : Cond.code y_EM_join b_EM_join 4 none ∈ w_all := wi_7 (List.mem_of_getElem? (i := 50) rfl)
theorem m_611 : Cond.methodLink Rn_EM 267 y_EM_keep ∈ w_all := wi_7 (List.mem_of_getElem? (i := 51) rfl)
theorem m_612 : Cond.instanceMethod y_EM_keep ∈ w_all := wi_7 (List.mem_of_getElem? (i := 52) rfl)
theorem m_613 : Cond.selects Rn_EM y_EM_keep y_EM_keep ∈ w_all := wi_7 (List.mem_of_getElem? (i := 53) rfl)
theorem m_614 : Cond.code y_EM_keep b_EM_keep 6 none ∈ w_all := wi_7 (List.mem_of_getElem? (i := 54) rfl)
theorem m_615 : Cond.methodLink Rn_EM 270 y_EM_copyLog ∈ w_all := wi_7 (List.mem_of_getElem? (i := 55) rfl)
theorem m_616 : Cond.instanceMethod y_EM_copyLog ∈ w_all := wi_7 (List.mem_of_getElem? (i := 56) rfl)
theorem m_617 : Cond.selects Rn_EM y_EM_copyLog y_EM_copyLog ∈ w_all := wi_7 (List.mem_of_getElem? (i := 57) rfl)
theorem m_618 : Cond.code y_EM_copyLog b_EM_copyLog 5 none ∈ w_all := wi_7 (List.mem_of_getElem? (i := 58) rfl)
theorem m_619 : Cond.methodLink Rn_EM 273 y_EM_turned ∈ w_all := wi_7 (List.mem_of_getElem? (i := 59) rfl)
theorem m_620 : Cond.instanceMethod y_EM_turned ∈ w_all := wi_7 (List.mem_of_getElem? (i := 60) rfl)
theorem m_621 : Cond.selects Rn_EM y_EM_turned y_EM_turned ∈ w_all := wi_7 (List.mem_of_getElem? (i := 61) rfl)
theorem m_622 : Cond.code y_EM_turned b_EM_turned 5 (some .boolean) ∈ w_all := wi_7 (List.mem_of_getElem? (i := 62) rfl)
theorem m_623 : Cond.constant Rn_EM 277 (1073741824) ∈ w_all := wi_7 (List.mem_of_getElem? (i := 63) rfl)
theorem m_624 : Cond.laysFinal Rn_ES Rn_ES "coordinators" "[LEpochStore$Coordinator;" ∈ w_all := wi_7 (List.mem_of_getElem? (i := 64) rfl)
theorem m_625 : Cond.laysFinal Rn_ES Rn_ES "logs" "[LEpochStore$Log;" ∈ w_all := wi_7 (List.mem_of_getElem? (i := 65) rfl)
theorem m_626 : Cond.laysFinal Rn_ES Rn_ES "storages" "[LEpochStore$Storage;" ∈ w_all := wi_7 (List.mem_of_getElem? (i := 66) rfl)
theorem m_627 : Cond.laysFinal Rn_ES Rn_ES "clients" "[LEpochStore$Client;" ∈ w_all := wi_7 (List.mem_of_getElem? (i := 67) rfl)
theorem m_628 : Cond.laysFinal Rn_ES Rn_ES "masters" "[LEpochStore$Master;" ∈ w_all := wi_7 (List.mem_of_getElem? (i := 68) rfl)
theorem m_629 : Cond.laysFinal Rn_ES Rn_ES "line" "LEpochStore$Line;" ∈ w_all := wi_7 (List.mem_of_getElem? (i := 69) rfl)
theorem m_630 : Cond.instantiable Rn_ES 6 ∈ w_all := wi_7 (List.mem_of_getElem? (i := 70) rfl)
theorem m_631 : Cond.lays Rn_Coordinator Rn_Coordinator "up" "Z" ∈ w_all := wi_7 (List.mem_of_getElem? (i := 71) rfl)
theorem m_632 : Cond.lays Rn_Coordinator Rn_Coordinator "epoch" "I" ∈ w_all := wi_7 (List.mem_of_getElem? (i := 72) rfl)
theorem m_633 : Cond.lays Rn_Writes Rn_Writes "keys" "I" ∈ w_all := wi_7 (List.mem_of_getElem? (i := 73) rfl)
theorem m_634 : Cond.laysFinal Rn_Writes Rn_Writes "values" "[I" ∈ w_all := wi_7 (List.mem_of_getElem? (i := 74) rfl)
theorem m_635 : Cond.laysFinal Rn_Entry Rn_Entry "version" "I" ∈ w_all := wi_7 (List.mem_of_getElem? (i := 75) rfl)
theorem m_636 : Cond.laysFinal Rn_Entry Rn_Entry "before" "I" ∈ w_all := wi_7 (List.mem_of_getElem? (i := 76) rfl)
theorem m_637 : Cond.laysFinal Rn_Entry Rn_Entry "writes" "LEpochStore$Writes;" ∈ w_all := wi_7 (List.mem_of_getElem? (i := 77) rfl)
theorem m_638 : Cond.lays Rn_Message Rn_Message "type" "I" ∈ w_all := wi_7 (List.mem_of_getElem? (i := 78) rfl)
theorem m_639 : Cond.lays Rn_Message Rn_Message "number" "I" ∈ w_all := wi_7 (List.mem_of_getElem? (i := 79) rfl)
theorem m_640 : Cond.lays Rn_Message Rn_Message "epoch" "I" ∈ w_all := wi_8 (List.mem_of_getElem? (i := 0) rfl)
theorem m_641 : Cond.lays Rn_Message Rn_Message "version" "I" ∈ w_all := wi_8 (List.mem_of_getElem? (i := 1) rfl)
theorem m_642 : Cond.lays Rn_Message Rn_Message "transaction" "I" ∈ w_all := wi_8 (List.mem_of_getElem? (i := 2) rfl)
theorem m_643 : Cond.lays Rn_Message Rn_Message "question" "I" ∈ w_all := wi_8 (List.mem_of_getElem? (i := 3) rfl)
theorem m_644 : Cond.lays Rn_Message Rn_Message "result" "I" ∈ w_all := wi_8 (List.mem_of_getElem? (i := 4) rfl)
theorem m_645 : Cond.lays Rn_Message Rn_Message "noted" "I" ∈ w_all := wi_8 (List.mem_of_getElem? (i := 5) rfl)
theorem m_646 : Cond.lays Rn_Message Rn_Message "writes" "LEpochStore$Writes;" ∈ w_all := wi_8 (List.mem_of_getElem? (i := 6) rfl)
theorem m_647 : Cond.lays Rn_Message Rn_Message "entry" "LEpochStore$Entry;" ∈ w_all := wi_8 (List.mem_of_getElem? (i := 7) rfl)
theorem m_648 : Cond.laysFinal Rn_Line Rn_Line "rows" "[LEpochStore$Message;" ∈ w_all := wi_8 (List.mem_of_getElem? (i := 8) rfl)
theorem m_649 : Cond.laysFinal Rn_Line Rn_Line "lost" "LEpochStore$Message;" ∈ w_all := wi_8 (List.mem_of_getElem? (i := 9) rfl)
theorem m_650 : Cond.lays Rn_Line Rn_Line "count" "I" ∈ w_all := wi_8 (List.mem_of_getElem? (i := 10) rfl)
theorem m_651 : Cond.laysFinal Rn_Question Rn_Question "number" "I" ∈ w_all := wi_8 (List.mem_of_getElem? (i := 11) rfl)
theorem m_652 : Cond.laysFinal Rn_Question Rn_Question "client" "I" ∈ w_all := wi_8 (List.mem_of_getElem? (i := 12) rfl)
theorem m_653 : Cond.laysFinal Rn_Question Rn_Question "transaction" "I" ∈ w_all := wi_8 (List.mem_of_getElem? (i := 13) rfl)
theorem m_654 : Cond.lays Rn_Question Rn_Question "confirmed" "I" ∈ w_all := wi_8 (List.mem_of_getElem? (i := 14) rfl)
theorem m_655 : Cond.laysFinal Rn_OnWay Rn_OnWay "entry" "LEpochStore$Entry;" ∈ w_all := wi_8 (List.mem_of_getElem? (i := 15) rfl)
theorem m_656 : Cond.laysFinal Rn_OnWay Rn_OnWay "client" "I" ∈ w_all := wi_8 (List.mem_of_getElem? (i := 16) rfl)
theorem m_657 : Cond.laysFinal Rn_OnWay Rn_OnWay "transaction" "I" ∈ w_all := wi_8 (List.mem_of_getElem? (i := 17) rfl)
theorem m_658 : Cond.lays Rn_OnWay Rn_OnWay "acknowledged" "I" ∈ w_all := wi_8 (List.mem_of_getElem? (i := 18) rfl)
theorem m_659 : Cond.laysFinal Rn_Master Rn_Master "epoch" "I" ∈ w_all := wi_8 (List.mem_of_getElem? (i := 19) rfl)
theorem m_660 : Cond.laysFinal Rn_Master Rn_Master "members" "I" ∈ w_all := wi_8 (List.mem_of_getElem? (i := 20) rfl)
theorem m_661 : Cond.laysFinal Rn_Master Rn_Master "start" "I" ∈ w_all := wi_8 (List.mem_of_getElem? (i := 21) rfl)
theorem m_662 : Cond.lays Rn_Master Rn_Master "last" "I" ∈ w_all := wi_8 (List.mem_of_getElem? (i := 22) rfl)
theorem m_663 : Cond.lays Rn_Master Rn_Master "pushed" "I" ∈ w_all := wi_8 (List.mem_of_getElem? (i := 23) rfl)
theorem m_664 : Cond.lays Rn_Master Rn_Master "committed" "I" ∈ w_all := wi_8 (List.mem_of_getElem? (i := 24) rfl)
theorem m_665 : Cond.laysFinal Rn_Master Rn_Master "latestWrite" "[I" ∈ w_all := wi_8 (List.mem_of_getElem? (i := 25) rfl)
theorem m_666 : Cond.laysFinal Rn_Master Rn_Master "questions" "[LEpochStore$Question;" ∈ w_all := wi_8 (List.mem_of_getElem? (i := 26) rfl)
theorem m_667 : Cond.lays Rn_Master Rn_Master "questionCount" "I" ∈ w_all := wi_8 (List.mem_of_getElem? (i := 27) rfl)
theorem m_668 : Cond.lays Rn_Master Rn_Master "questionsEver" "I" ∈ w_all := wi_8 (List.mem_of_getElem? (i := 28) rfl)
theorem m_669 : Cond.laysFinal Rn_Master Rn_Master "onWay" "[LEpochStore$OnWay;" ∈ w_all := wi_8 (List.mem_of_getElem? (i := 29) rfl)
theorem m_670 : Cond.lays Rn_Master Rn_Master "onWayCount" "I" ∈ w_all := wi_8 (List.mem_of_getElem? (i := 30) rfl)
theorem m_671 : Cond.laysFinal Rn_Log Rn_Log "number" "I" ∈ w_all := wi_8 (List.mem_of_getElem? (i := 31) rfl)
theorem m_672 : Cond.lays Rn_Log Rn_Log "up" "Z" ∈ w_all := wi_8 (List.mem_of_getElem? (i := 32) rfl)
theorem m_673 : Cond.lays Rn_Log Rn_Log "epoch" "I" ∈ w_all := wi_8 (List.mem_of_getElem? (i := 33) rfl)
theorem m_674 : Cond.lays Rn_Log Rn_Log "end" "I" ∈ w_all := wi_8 (List.mem_of_getElem? (i := 34) rfl)
theorem m_675 : Cond.laysFinal Rn_Log Rn_Log "bases" "[I" ∈ w_all := wi_8 (List.mem_of_getElem? (i := 35) rfl)
theorem m_676 : Cond.laysFinal Rn_Log Rn_Log "records" "[LEpochStore$Entry;" ∈ w_all := wi_8 (List.mem_of_getElem? (i := 36) rfl)
theorem m_677 : Cond.lays Rn_Log Rn_Log "count" "I" ∈ w_all := wi_8 (List.mem_of_getElem? (i := 37) rfl)
theorem m_678 : Cond.laysFinal Rn_Storage Rn_Storage "ownKeys" "I" ∈ w_all := wi_8 (List.mem_of_getElem? (i := 38) rfl)
theorem m_679 : Cond.lays Rn_Storage Rn_Storage "up" "Z" ∈ w_all := wi_8 (List.mem_of_getElem? (i := 39) rfl)
theorem m_680 : Cond.lays Rn_Storage Rn_Storage "epoch" "I" ∈ w_all := wi_8 (List.mem_of_getElem? (i := 40) rfl)
theorem m_681 : Cond.lays Rn_Storage Rn_Storage "at" "I" ∈ w_all := wi_8 (List.mem_of_getElem? (i := 41) rfl)
theorem m_682 : Cond.laysFinal Rn_Storage Rn_Storage "records" "[LEpochStore$Entry;" ∈ w_all := wi_8 (List.mem_of_getElem? (i := 42) rfl)
theorem m_683 : Cond.lays Rn_Storage Rn_Storage "count" "I" ∈ w_all := wi_8 (List.mem_of_getElem? (i := 43) rfl)
theorem m_684 : Cond.laysFinal Rn_Client Rn_Client "number" "I" ∈ w_all := wi_8 (List.mem_of_getElem? (i := 44) rfl)
theorem m_685 : Cond.lays Rn_Client Rn_Client "knownEpoch" "I" ∈ w_all := wi_8 (List.mem_of_getElem? (i := 45) rfl)
theorem m_686 : Cond.lays Rn_Client Rn_Client "transaction" "I" ∈ w_all := wi_8 (List.mem_of_getElem? (i := 46) rfl)
theorem m_687 : Cond.lays Rn_Client Rn_Client "state" "I" ∈ w_all := wi_8 (List.mem_of_getElem? (i := 47) rfl)
theorem m_688 : Cond.lays Rn_Client Rn_Client "epoch" "I" ∈ w_all := wi_8 (List.mem_of_getElem? (i := 48) rfl)
theorem m_689 : Cond.lays Rn_Client Rn_Client "readVersion" "I" ∈ w_all := wi_8 (List.mem_of_getElem? (i := 49) rfl)
theorem m_690 : Cond.lays Rn_Client Rn_Client "commitVersion" "I" ∈ w_all := wi_8 (List.mem_of_getElem? (i := 50) rfl)
theorem m_691 : Cond.lays Rn_Client Rn_Client "noted" "I" ∈ w_all := wi_8 (List.mem_of_getElem? (i := 51) rfl)
theorem m_692 : Cond.lays Rn_Client Rn_Client "writes" "LEpochStore$Writes;" ∈ w_all := wi_8 (List.mem_of_getElem? (i := 52) rfl)
theorem m_693 : Cond.lays Rn_EM Rn_EM "known" "[I" ∈ w_all := wi_8 (List.mem_of_getElem? (i := 53) rfl)
theorem m_694 : Cond.lays Rn_EM Rn_EM "coordinatorUp" "[Z" ∈ w_all := wi_8 (List.mem_of_getElem? (i := 54) rfl)
theorem m_695 : Cond.lays Rn_EM Rn_EM "logEpoch" "[I" ∈ w_all := wi_8 (List.mem_of_getElem? (i := 55) rfl)
theorem m_696 : Cond.lays Rn_EM Rn_EM "logUp" "[Z" ∈ w_all := wi_8 (List.mem_of_getElem? (i := 56) rfl)
theorem m_697 : Cond.lays Rn_EM Rn_EM "logEnd" "[I" ∈ w_all := wi_8 (List.mem_of_getElem? (i := 57) rfl)
theorem m_698 : Cond.lays Rn_EM Rn_EM "logMany" "[I" ∈ w_all := wi_8 (List.mem_of_getElem? (i := 58) rfl)
theorem m_699 : Cond.lays Rn_EM Rn_EM "logVersion" "[I" ∈ w_all := wi_8 (List.mem_of_getElem? (i := 59) rfl)
theorem m_700 : Cond.lays Rn_EM Rn_EM "logMask" "[I" ∈ w_all := wi_8 (List.mem_of_getElem? (i := 60) rfl)
theorem m_701 : Cond.lays Rn_EM Rn_EM "logValue" "[I" ∈ w_all := wi_8 (List.mem_of_getElem? (i := 61) rfl)
theorem m_702 : Cond.lays Rn_EM Rn_EM "base" "[I" ∈ w_all := wi_8 (List.mem_of_getElem? (i := 62) rfl)
theorem m_703 : Cond.lays Rn_EM Rn_EM "storeEpoch" "[I" ∈ w_all := wi_8 (List.mem_of_getElem? (i := 63) rfl)
theorem m_704 : Cond.lays Rn_EM Rn_EM "storeUp" "[Z" ∈ w_all := wi_8 (List.mem_of_getElem? (i := 64) rfl)
theorem m_705 : Cond.lays Rn_EM Rn_EM "storeAt" "[I" ∈ w_all := wi_8 (List.mem_of_getElem? (i := 65) rfl)
theorem m_706 : Cond.lays Rn_EM Rn_EM "storeMany" "[I" ∈ w_all := wi_8 (List.mem_of_getElem? (i := 66) rfl)
theorem m_707 : Cond.lays Rn_EM Rn_EM "storeVersion" "[I" ∈ w_all := wi_8 (List.mem_of_getElem? (i := 67) rfl)
theorem m_708 : Cond.lays Rn_EM Rn_EM "storeMask" "[I" ∈ w_all := wi_8 (List.mem_of_getElem? (i := 68) rfl)
theorem m_709 : Cond.lays Rn_EM Rn_EM "storeValue" "[I" ∈ w_all := wi_8 (List.mem_of_getElem? (i := 69) rfl)
theorem m_710 : Cond.lays Rn_EM Rn_EM "there" "[Z" ∈ w_all := wi_8 (List.mem_of_getElem? (i := 70) rfl)
theorem m_711 : Cond.lays Rn_EM Rn_EM "logsOf" "[I" ∈ w_all := wi_8 (List.mem_of_getElem? (i := 71) rfl)
theorem m_712 : Cond.lays Rn_EM Rn_EM "startOf" "[I" ∈ w_all := wi_8 (List.mem_of_getElem? (i := 72) rfl)
theorem m_713 : Cond.lays Rn_EM Rn_EM "lastOf" "[I" ∈ w_all := wi_8 (List.mem_of_getElem? (i := 73) rfl)
theorem m_714 : Cond.lays Rn_EM Rn_EM "pushedOf" "[I" ∈ w_all := wi_8 (List.mem_of_getElem? (i := 74) rfl)
theorem m_715 : Cond.lays Rn_EM Rn_EM "doneOf" "[I" ∈ w_all := wi_8 (List.mem_of_getElem? (i := 75) rfl)
theorem m_716 : Cond.lays Rn_EM Rn_EM "latest" "[I" ∈ w_all := wi_8 (List.mem_of_getElem? (i := 76) rfl)
theorem m_717 : Cond.lays Rn_EM Rn_EM "asked" "[I" ∈ w_all := wi_8 (List.mem_of_getElem? (i := 77) rfl)
theorem m_718 : Cond.lays Rn_EM Rn_EM "questions" "[I" ∈ w_all := wi_8 (List.mem_of_getElem? (i := 78) rfl)
theorem m_719 : Cond.lays Rn_EM Rn_EM "questionNumber" "[I" ∈ w_all := wi_8 (List.mem_of_getElem? (i := 79) rfl)
theorem m_720 : Cond.lays Rn_EM Rn_EM "questionClient" "[I" ∈ w_all := wi_9 (List.mem_of_getElem? (i := 0) rfl)
theorem m_721 : Cond.lays Rn_EM Rn_EM "questionTurn" "[I" ∈ w_all := wi_9 (List.mem_of_getElem? (i := 1) rfl)
theorem m_722 : Cond.lays Rn_EM Rn_EM "questionHas" "[I" ∈ w_all := wi_9 (List.mem_of_getElem? (i := 2) rfl)
theorem m_723 : Cond.lays Rn_EM Rn_EM "ways" "[I" ∈ w_all := wi_9 (List.mem_of_getElem? (i := 3) rfl)
theorem m_724 : Cond.lays Rn_EM Rn_EM "wayVersion" "[I" ∈ w_all := wi_9 (List.mem_of_getElem? (i := 4) rfl)
theorem m_725 : Cond.lays Rn_EM Rn_EM "wayBefore" "[I" ∈ w_all := wi_9 (List.mem_of_getElem? (i := 5) rfl)
theorem m_726 : Cond.lays Rn_EM Rn_EM "wayMask" "[I" ∈ w_all := wi_9 (List.mem_of_getElem? (i := 6) rfl)
theorem m_727 : Cond.lays Rn_EM Rn_EM "wayValue" "[I" ∈ w_all := wi_9 (List.mem_of_getElem? (i := 7) rfl)
theorem m_728 : Cond.lays Rn_EM Rn_EM "wayHas" "[I" ∈ w_all := wi_9 (List.mem_of_getElem? (i := 8) rfl)
theorem m_729 : Cond.lays Rn_EM Rn_EM "wayClient" "[I" ∈ w_all := wi_9 (List.mem_of_getElem? (i := 9) rfl)
theorem m_730 : Cond.lays Rn_EM Rn_EM "wayTurn" "[I" ∈ w_all := wi_9 (List.mem_of_getElem? (i := 10) rfl)
theorem m_731 : Cond.lays Rn_EM Rn_EM "clientEpoch" "[I" ∈ w_all := wi_9 (List.mem_of_getElem? (i := 11) rfl)
theorem m_732 : Cond.lays Rn_EM Rn_EM "turn" "[I" ∈ w_all := wi_9 (List.mem_of_getElem? (i := 12) rfl)
theorem m_733 : Cond.lays Rn_EM Rn_EM "state" "[I" ∈ w_all := wi_9 (List.mem_of_getElem? (i := 13) rfl)
theorem m_734 : Cond.lays Rn_EM Rn_EM "readAt" "[I" ∈ w_all := wi_9 (List.mem_of_getElem? (i := 14) rfl)
theorem m_735 : Cond.lays Rn_EM Rn_EM "begunAt" "[I" ∈ w_all := wi_9 (List.mem_of_getElem? (i := 15) rfl)
theorem m_736 : Cond.lays Rn_EM Rn_EM "noted" "[I" ∈ w_all := wi_9 (List.mem_of_getElem? (i := 16) rfl)
theorem m_737 : Cond.lays Rn_EM Rn_EM "written" "[I" ∈ w_all := wi_9 (List.mem_of_getElem? (i := 17) rfl)
theorem m_738 : Cond.lays Rn_EM Rn_EM "value" "[I" ∈ w_all := wi_9 (List.mem_of_getElem? (i := 18) rfl)
theorem m_739 : Cond.lays Rn_EM Rn_EM "won" "[I" ∈ w_all := wi_9 (List.mem_of_getElem? (i := 19) rfl)
theorem m_740 : Cond.lays Rn_EM Rn_EM "lines" "I" ∈ w_all := wi_9 (List.mem_of_getElem? (i := 20) rfl)
theorem m_741 : Cond.lays Rn_EM Rn_EM "type" "[I" ∈ w_all := wi_9 (List.mem_of_getElem? (i := 21) rfl)
theorem m_742 : Cond.lays Rn_EM Rn_EM "who" "[I" ∈ w_all := wi_9 (List.mem_of_getElem? (i := 22) rfl)
theorem m_743 : Cond.lays Rn_EM Rn_EM "epoch" "[I" ∈ w_all := wi_9 (List.mem_of_getElem? (i := 23) rfl)
theorem m_744 : Cond.lays Rn_EM Rn_EM "version" "[I" ∈ w_all := wi_9 (List.mem_of_getElem? (i := 24) rfl)
theorem m_745 : Cond.lays Rn_EM Rn_EM "number" "[I" ∈ w_all := wi_9 (List.mem_of_getElem? (i := 25) rfl)
theorem m_746 : Cond.lays Rn_EM Rn_EM "other" "[I" ∈ w_all := wi_9 (List.mem_of_getElem? (i := 26) rfl)
theorem m_747 : Cond.lays Rn_EM Rn_EM "mask" "[I" ∈ w_all := wi_9 (List.mem_of_getElem? (i := 27) rfl)
theorem m_748 : Cond.lays Rn_EM Rn_EM "content" "[I" ∈ w_all := wi_9 (List.mem_of_getElem? (i := 28) rfl)
theorem m_749 : Cond.instantiable Rn_EM 56 ∈ w_all := wi_9 (List.mem_of_getElem? (i := 29) rfl)
theorem m_750 : Cond.initialized Rn_Law ∈ w_all := wi_9 (List.mem_of_getElem? (i := 30) rfl)
end
section
theorem xl_ES : ∀ w ∈ u_ws Rn_ES Tn_ES 6, w ∈ w_all := fun w h => by
  have h : w ∈ [Cond.laysFinal Rn_ES Rn_ES "coordinators" "[LEpochStore$Coordinator;", Cond.laysFinal Rn_ES Rn_ES "logs" "[LEpochStore$Log;", Cond.laysFinal Rn_ES Rn_ES "storages" "[LEpochStore$Storage;", Cond.laysFinal Rn_ES Rn_ES "clients" "[LEpochStore$Client;", Cond.laysFinal Rn_ES Rn_ES "masters" "[LEpochStore$Master;", Cond.laysFinal Rn_ES Rn_ES "line" "LEpochStore$Line;"] := h
  simp only [List.mem_cons, List.not_mem_nil, or_false] at h
  rcases h with rfl | rfl | rfl | rfl | rfl | rfl
  · exact m_624
  · exact m_625
  · exact m_626
  · exact m_627
  · exact m_628
  · exact m_629
theorem xt_ES : ∀ k, k < 6 → parseFieldDescriptor (Tn_ES k).2.2.1 = some (tn_ES k) := by decide +kernel
theorem xn_ES : ∀ a, a < 6 → ∀ b, b < 6 → a ≠ b → (Tn_ES a).2.1 ≠ (Tn_ES b).2.1 := by decide +kernel
theorem xd_ES : ∀ k, k < 6 → (Tn_ES k).1 = Rn_ES := by decide +kernel
theorem xl_Coordinator : ∀ w ∈ u_ws Rn_Coordinator Tn_Coordinator 2, w ∈ w_all := fun w h => by
  have h : w ∈ [Cond.lays Rn_Coordinator Rn_Coordinator "up" "Z", Cond.lays Rn_Coordinator Rn_Coordinator "epoch" "I"] := h
  simp only [List.mem_cons, List.not_mem_nil, or_false] at h
  rcases h with rfl | rfl
  · exact m_631
  · exact m_632
theorem xt_Coordinator : ∀ k, k < 2 → parseFieldDescriptor (Tn_Coordinator k).2.2.1 = some (tn_Coordinator k) := by decide +kernel
theorem xn_Coordinator : ∀ a, a < 2 → ∀ b, b < 2 → a ≠ b → (Tn_Coordinator a).2.1 ≠ (Tn_Coordinator b).2.1 := by decide +kernel
theorem xd_Coordinator : ∀ k, k < 2 → (Tn_Coordinator k).1 = Rn_Coordinator := by decide +kernel
theorem xl_Writes : ∀ w ∈ u_ws Rn_Writes Tn_Writes 2, w ∈ w_all := fun w h => by
  have h : w ∈ [Cond.lays Rn_Writes Rn_Writes "keys" "I", Cond.laysFinal Rn_Writes Rn_Writes "values" "[I"] := h
  simp only [List.mem_cons, List.not_mem_nil, or_false] at h
  rcases h with rfl | rfl
  · exact m_633
  · exact m_634
theorem xt_Writes : ∀ k, k < 2 → parseFieldDescriptor (Tn_Writes k).2.2.1 = some (tn_Writes k) := by decide +kernel
theorem xn_Writes : ∀ a, a < 2 → ∀ b, b < 2 → a ≠ b → (Tn_Writes a).2.1 ≠ (Tn_Writes b).2.1 := by decide +kernel
theorem xd_Writes : ∀ k, k < 2 → (Tn_Writes k).1 = Rn_Writes := by decide +kernel
theorem xl_Entry : ∀ w ∈ u_ws Rn_Entry Tn_Entry 3, w ∈ w_all := fun w h => by
  have h : w ∈ [Cond.laysFinal Rn_Entry Rn_Entry "version" "I", Cond.laysFinal Rn_Entry Rn_Entry "before" "I", Cond.laysFinal Rn_Entry Rn_Entry "writes" "LEpochStore$Writes;"] := h
  simp only [List.mem_cons, List.not_mem_nil, or_false] at h
  rcases h with rfl | rfl | rfl
  · exact m_635
  · exact m_636
  · exact m_637
theorem xt_Entry : ∀ k, k < 3 → parseFieldDescriptor (Tn_Entry k).2.2.1 = some (tn_Entry k) := by decide +kernel
theorem xn_Entry : ∀ a, a < 3 → ∀ b, b < 3 → a ≠ b → (Tn_Entry a).2.1 ≠ (Tn_Entry b).2.1 := by decide +kernel
theorem xd_Entry : ∀ k, k < 3 → (Tn_Entry k).1 = Rn_Entry := by decide +kernel
theorem xl_Message : ∀ w ∈ u_ws Rn_Message Tn_Message 10, w ∈ w_all := fun w h => by
  have h : w ∈ [Cond.lays Rn_Message Rn_Message "type" "I", Cond.lays Rn_Message Rn_Message "number" "I", Cond.lays Rn_Message Rn_Message "epoch" "I", Cond.lays Rn_Message Rn_Message "version" "I", Cond.lays Rn_Message Rn_Message "transaction" "I", Cond.lays Rn_Message Rn_Message "question" "I", Cond.lays Rn_Message Rn_Message "result" "I", Cond.lays Rn_Message Rn_Message "noted" "I", Cond.lays Rn_Message Rn_Message "writes" "LEpochStore$Writes;", Cond.lays Rn_Message Rn_Message "entry" "LEpochStore$Entry;"] := h
  simp only [List.mem_cons, List.not_mem_nil, or_false] at h
  rcases h with rfl | rfl | rfl | rfl | rfl | rfl | rfl | rfl | rfl | rfl
  · exact m_638
  · exact m_639
  · exact m_640
  · exact m_641
  · exact m_642
  · exact m_643
  · exact m_644
  · exact m_645
  · exact m_646
  · exact m_647
theorem xt_Message : ∀ k, k < 10 → parseFieldDescriptor (Tn_Message k).2.2.1 = some (tn_Message k) := by decide +kernel
theorem xn_Message : ∀ a, a < 10 → ∀ b, b < 10 → a ≠ b → (Tn_Message a).2.1 ≠ (Tn_Message b).2.1 := by decide +kernel
theorem xd_Message : ∀ k, k < 10 → (Tn_Message k).1 = Rn_Message := by decide +kernel
theorem xl_Line : ∀ w ∈ u_ws Rn_Line Tn_Line 3, w ∈ w_all := fun w h => by
  have h : w ∈ [Cond.laysFinal Rn_Line Rn_Line "rows" "[LEpochStore$Message;", Cond.laysFinal Rn_Line Rn_Line "lost" "LEpochStore$Message;", Cond.lays Rn_Line Rn_Line "count" "I"] := h
  simp only [List.mem_cons, List.not_mem_nil, or_false] at h
  rcases h with rfl | rfl | rfl
  · exact m_648
  · exact m_649
  · exact m_650
theorem xt_Line : ∀ k, k < 3 → parseFieldDescriptor (Tn_Line k).2.2.1 = some (tn_Line k) := by decide +kernel
theorem xn_Line : ∀ a, a < 3 → ∀ b, b < 3 → a ≠ b → (Tn_Line a).2.1 ≠ (Tn_Line b).2.1 := by decide +kernel
theorem xd_Line : ∀ k, k < 3 → (Tn_Line k).1 = Rn_Line := by decide +kernel
theorem xl_Question : ∀ w ∈ u_ws Rn_Question Tn_Question 4, w ∈ w_all := fun w h => by
  have h : w ∈ [Cond.laysFinal Rn_Question Rn_Question "number" "I", Cond.laysFinal Rn_Question Rn_Question "client" "I", Cond.laysFinal Rn_Question Rn_Question "transaction" "I", Cond.lays Rn_Question Rn_Question "confirmed" "I"] := h
  simp only [List.mem_cons, List.not_mem_nil, or_false] at h
  rcases h with rfl | rfl | rfl | rfl
  · exact m_651
  · exact m_652
  · exact m_653
  · exact m_654
theorem xt_Question : ∀ k, k < 4 → parseFieldDescriptor (Tn_Question k).2.2.1 = some (tn_Question k) := by decide +kernel
theorem xn_Question : ∀ a, a < 4 → ∀ b, b < 4 → a ≠ b → (Tn_Question a).2.1 ≠ (Tn_Question b).2.1 := by decide +kernel
theorem xd_Question : ∀ k, k < 4 → (Tn_Question k).1 = Rn_Question := by decide +kernel
theorem xl_OnWay : ∀ w ∈ u_ws Rn_OnWay Tn_OnWay 4, w ∈ w_all := fun w h => by
  have h : w ∈ [Cond.laysFinal Rn_OnWay Rn_OnWay "entry" "LEpochStore$Entry;", Cond.laysFinal Rn_OnWay Rn_OnWay "client" "I", Cond.laysFinal Rn_OnWay Rn_OnWay "transaction" "I", Cond.lays Rn_OnWay Rn_OnWay "acknowledged" "I"] := h
  simp only [List.mem_cons, List.not_mem_nil, or_false] at h
  rcases h with rfl | rfl | rfl | rfl
  · exact m_655
  · exact m_656
  · exact m_657
  · exact m_658
theorem xt_OnWay : ∀ k, k < 4 → parseFieldDescriptor (Tn_OnWay k).2.2.1 = some (tn_OnWay k) := by decide +kernel
theorem xn_OnWay : ∀ a, a < 4 → ∀ b, b < 4 → a ≠ b → (Tn_OnWay a).2.1 ≠ (Tn_OnWay b).2.1 := by decide +kernel
theorem xd_OnWay : ∀ k, k < 4 → (Tn_OnWay k).1 = Rn_OnWay := by decide +kernel
theorem xl_Master : ∀ w ∈ u_ws Rn_Master Tn_Master 12, w ∈ w_all := fun w h => by
  have h : w ∈ [Cond.laysFinal Rn_Master Rn_Master "epoch" "I", Cond.laysFinal Rn_Master Rn_Master "members" "I", Cond.laysFinal Rn_Master Rn_Master "start" "I", Cond.lays Rn_Master Rn_Master "last" "I", Cond.lays Rn_Master Rn_Master "pushed" "I", Cond.lays Rn_Master Rn_Master "committed" "I", Cond.laysFinal Rn_Master Rn_Master "latestWrite" "[I", Cond.laysFinal Rn_Master Rn_Master "questions" "[LEpochStore$Question;", Cond.lays Rn_Master Rn_Master "questionCount" "I", Cond.lays Rn_Master Rn_Master "questionsEver" "I", Cond.laysFinal Rn_Master Rn_Master "onWay" "[LEpochStore$OnWay;", Cond.lays Rn_Master Rn_Master "onWayCount" "I"] := h
  simp only [List.mem_cons, List.not_mem_nil, or_false] at h
  rcases h with rfl | rfl | rfl | rfl | rfl | rfl | rfl | rfl | rfl | rfl | rfl | rfl
  · exact m_659
  · exact m_660
  · exact m_661
  · exact m_662
  · exact m_663
  · exact m_664
  · exact m_665
  · exact m_666
  · exact m_667
  · exact m_668
  · exact m_669
  · exact m_670
theorem xt_Master : ∀ k, k < 12 → parseFieldDescriptor (Tn_Master k).2.2.1 = some (tn_Master k) := by decide +kernel
theorem xn_Master : ∀ a, a < 12 → ∀ b, b < 12 → a ≠ b → (Tn_Master a).2.1 ≠ (Tn_Master b).2.1 := by decide +kernel
theorem xd_Master : ∀ k, k < 12 → (Tn_Master k).1 = Rn_Master := by decide +kernel
theorem xl_Log : ∀ w ∈ u_ws Rn_Log Tn_Log 7, w ∈ w_all := fun w h => by
  have h : w ∈ [Cond.laysFinal Rn_Log Rn_Log "number" "I", Cond.lays Rn_Log Rn_Log "up" "Z", Cond.lays Rn_Log Rn_Log "epoch" "I", Cond.lays Rn_Log Rn_Log "end" "I", Cond.laysFinal Rn_Log Rn_Log "bases" "[I", Cond.laysFinal Rn_Log Rn_Log "records" "[LEpochStore$Entry;", Cond.lays Rn_Log Rn_Log "count" "I"] := h
  simp only [List.mem_cons, List.not_mem_nil, or_false] at h
  rcases h with rfl | rfl | rfl | rfl | rfl | rfl | rfl
  · exact m_671
  · exact m_672
  · exact m_673
  · exact m_674
  · exact m_675
  · exact m_676
  · exact m_677
theorem xt_Log : ∀ k, k < 7 → parseFieldDescriptor (Tn_Log k).2.2.1 = some (tn_Log k) := by decide +kernel
theorem xn_Log : ∀ a, a < 7 → ∀ b, b < 7 → a ≠ b → (Tn_Log a).2.1 ≠ (Tn_Log b).2.1 := by decide +kernel
theorem xd_Log : ∀ k, k < 7 → (Tn_Log k).1 = Rn_Log := by decide +kernel
theorem xl_Storage : ∀ w ∈ u_ws Rn_Storage Tn_Storage 6, w ∈ w_all := fun w h => by
  have h : w ∈ [Cond.laysFinal Rn_Storage Rn_Storage "ownKeys" "I", Cond.lays Rn_Storage Rn_Storage "up" "Z", Cond.lays Rn_Storage Rn_Storage "epoch" "I", Cond.lays Rn_Storage Rn_Storage "at" "I", Cond.laysFinal Rn_Storage Rn_Storage "records" "[LEpochStore$Entry;", Cond.lays Rn_Storage Rn_Storage "count" "I"] := h
  simp only [List.mem_cons, List.not_mem_nil, or_false] at h
  rcases h with rfl | rfl | rfl | rfl | rfl | rfl
  · exact m_678
  · exact m_679
  · exact m_680
  · exact m_681
  · exact m_682
  · exact m_683
theorem xt_Storage : ∀ k, k < 6 → parseFieldDescriptor (Tn_Storage k).2.2.1 = some (tn_Storage k) := by decide +kernel
theorem xn_Storage : ∀ a, a < 6 → ∀ b, b < 6 → a ≠ b → (Tn_Storage a).2.1 ≠ (Tn_Storage b).2.1 := by decide +kernel
theorem xd_Storage : ∀ k, k < 6 → (Tn_Storage k).1 = Rn_Storage := by decide +kernel
theorem xl_Client : ∀ w ∈ u_ws Rn_Client Tn_Client 9, w ∈ w_all := fun w h => by
  have h : w ∈ [Cond.laysFinal Rn_Client Rn_Client "number" "I", Cond.lays Rn_Client Rn_Client "knownEpoch" "I", Cond.lays Rn_Client Rn_Client "transaction" "I", Cond.lays Rn_Client Rn_Client "state" "I", Cond.lays Rn_Client Rn_Client "epoch" "I", Cond.lays Rn_Client Rn_Client "readVersion" "I", Cond.lays Rn_Client Rn_Client "commitVersion" "I", Cond.lays Rn_Client Rn_Client "noted" "I", Cond.lays Rn_Client Rn_Client "writes" "LEpochStore$Writes;"] := h
  simp only [List.mem_cons, List.not_mem_nil, or_false] at h
  rcases h with rfl | rfl | rfl | rfl | rfl | rfl | rfl | rfl | rfl
  · exact m_684
  · exact m_685
  · exact m_686
  · exact m_687
  · exact m_688
  · exact m_689
  · exact m_690
  · exact m_691
  · exact m_692
theorem xt_Client : ∀ k, k < 9 → parseFieldDescriptor (Tn_Client k).2.2.1 = some (tn_Client k) := by decide +kernel
theorem xn_Client : ∀ a, a < 9 → ∀ b, b < 9 → a ≠ b → (Tn_Client a).2.1 ≠ (Tn_Client b).2.1 := by decide +kernel
theorem xd_Client : ∀ k, k < 9 → (Tn_Client k).1 = Rn_Client := by decide +kernel
theorem xl_EM : ∀ w ∈ u_ws Rn_EM Tn_EM 56, w ∈ w_all := fun w h => by
  have h : w ∈ [Cond.lays Rn_EM Rn_EM "known" "[I", Cond.lays Rn_EM Rn_EM "coordinatorUp" "[Z", Cond.lays Rn_EM Rn_EM "logEpoch" "[I", Cond.lays Rn_EM Rn_EM "logUp" "[Z", Cond.lays Rn_EM Rn_EM "logEnd" "[I", Cond.lays Rn_EM Rn_EM "logMany" "[I", Cond.lays Rn_EM Rn_EM "logVersion" "[I", Cond.lays Rn_EM Rn_EM "logMask" "[I", Cond.lays Rn_EM Rn_EM "logValue" "[I", Cond.lays Rn_EM Rn_EM "base" "[I", Cond.lays Rn_EM Rn_EM "storeEpoch" "[I", Cond.lays Rn_EM Rn_EM "storeUp" "[Z", Cond.lays Rn_EM Rn_EM "storeAt" "[I", Cond.lays Rn_EM Rn_EM "storeMany" "[I", Cond.lays Rn_EM Rn_EM "storeVersion" "[I", Cond.lays Rn_EM Rn_EM "storeMask" "[I", Cond.lays Rn_EM Rn_EM "storeValue" "[I", Cond.lays Rn_EM Rn_EM "there" "[Z", Cond.lays Rn_EM Rn_EM "logsOf" "[I", Cond.lays Rn_EM Rn_EM "startOf" "[I", Cond.lays Rn_EM Rn_EM "lastOf" "[I", Cond.lays Rn_EM Rn_EM "pushedOf" "[I", Cond.lays Rn_EM Rn_EM "doneOf" "[I", Cond.lays Rn_EM Rn_EM "latest" "[I", Cond.lays Rn_EM Rn_EM "asked" "[I", Cond.lays Rn_EM Rn_EM "questions" "[I", Cond.lays Rn_EM Rn_EM "questionNumber" "[I", Cond.lays Rn_EM Rn_EM "questionClient" "[I", Cond.lays Rn_EM Rn_EM "questionTurn" "[I", Cond.lays Rn_EM Rn_EM "questionHas" "[I", Cond.lays Rn_EM Rn_EM "ways" "[I", Cond.lays Rn_EM Rn_EM "wayVersion" "[I", Cond.lays Rn_EM Rn_EM "wayBefore" "[I", Cond.lays Rn_EM Rn_EM "wayMask" "[I", Cond.lays Rn_EM Rn_EM "wayValue" "[I", Cond.lays Rn_EM Rn_EM "wayHas" "[I", Cond.lays Rn_EM Rn_EM "wayClient" "[I", Cond.lays Rn_EM Rn_EM "wayTurn" "[I", Cond.lays Rn_EM Rn_EM "clientEpoch" "[I", Cond.lays Rn_EM Rn_EM "turn" "[I", Cond.lays Rn_EM Rn_EM "state" "[I", Cond.lays Rn_EM Rn_EM "readAt" "[I", Cond.lays Rn_EM Rn_EM "begunAt" "[I", Cond.lays Rn_EM Rn_EM "noted" "[I", Cond.lays Rn_EM Rn_EM "written" "[I", Cond.lays Rn_EM Rn_EM "value" "[I", Cond.lays Rn_EM Rn_EM "won" "[I", Cond.lays Rn_EM Rn_EM "lines" "I", Cond.lays Rn_EM Rn_EM "type" "[I", Cond.lays Rn_EM Rn_EM "who" "[I", Cond.lays Rn_EM Rn_EM "epoch" "[I", Cond.lays Rn_EM Rn_EM "version" "[I", Cond.lays Rn_EM Rn_EM "number" "[I", Cond.lays Rn_EM Rn_EM "other" "[I", Cond.lays Rn_EM Rn_EM "mask" "[I", Cond.lays Rn_EM Rn_EM "content" "[I"] := h
  simp only [List.mem_cons, List.not_mem_nil, or_false] at h
  rcases h with rfl | rfl | rfl | rfl | rfl | rfl | rfl | rfl | rfl | rfl | rfl | rfl | rfl | rfl | rfl | rfl | rfl | rfl | rfl | rfl | rfl | rfl | rfl | rfl | rfl | rfl | rfl | rfl | rfl | rfl | rfl | rfl | rfl | rfl | rfl | rfl | rfl | rfl | rfl | rfl | rfl | rfl | rfl | rfl | rfl | rfl | rfl | rfl | rfl | rfl | rfl | rfl | rfl | rfl | rfl | rfl
  · exact m_693
  · exact m_694
  · exact m_695
  · exact m_696
  · exact m_697
  · exact m_698
  · exact m_699
  · exact m_700
  · exact m_701
  · exact m_702
  · exact m_703
  · exact m_704
  · exact m_705
  · exact m_706
  · exact m_707
  · exact m_708
  · exact m_709
  · exact m_710
  · exact m_711
  · exact m_712
  · exact m_713
  · exact m_714
  · exact m_715
  · exact m_716
  · exact m_717
  · exact m_718
  · exact m_719
  · exact m_720
  · exact m_721
  · exact m_722
  · exact m_723
  · exact m_724
  · exact m_725
  · exact m_726
  · exact m_727
  · exact m_728
  · exact m_729
  · exact m_730
  · exact m_731
  · exact m_732
  · exact m_733
  · exact m_734
  · exact m_735
  · exact m_736
  · exact m_737
  · exact m_738
  · exact m_739
  · exact m_740
  · exact m_741
  · exact m_742
  · exact m_743
  · exact m_744
  · exact m_745
  · exact m_746
  · exact m_747
  · exact m_748
theorem xt_EM : ∀ k, k < 56 → parseFieldDescriptor (Tn_EM k).2.2.1 = some (tn_EM k) := by decide +kernel
theorem xn_EM : ∀ a, a < 56 → ∀ b, b < 56 → a ≠ b → (Tn_EM a).2.1 ≠ (Tn_EM b).2.1 := by decide +kernel
theorem xd_EM : ∀ k, k < 56 → (Tn_EM k).1 = Rn_EM := by decide +kernel
-- what a call must know of the name of its method
theorem ky_Message_init : y_Message_init.cls ≠ "java/lang/invoke/MethodHandle" ∧ y_Message_init.cls ≠ "java/lang/invoke/VarHandle" ∧ (parseMethodDescriptor y_Message_init.desc).map (fun d => d.parameters.length) = some 0 := by decide +kernel
theorem ky_Line_init : y_Line_init.cls ≠ "java/lang/invoke/MethodHandle" ∧ y_Line_init.cls ≠ "java/lang/invoke/VarHandle" ∧ (parseMethodDescriptor y_Line_init.desc).map (fun d => d.parameters.length) = some 0 := by decide +kernel
theorem ky_Coordinator_init : y_Coordinator_init.cls ≠ "java/lang/invoke/MethodHandle" ∧ y_Coordinator_init.cls ≠ "java/lang/invoke/VarHandle" ∧ (parseMethodDescriptor y_Coordinator_init.desc).map (fun d => d.parameters.length) = some 0 := by decide +kernel
theorem ky_Log_init : y_Log_init.cls ≠ "java/lang/invoke/MethodHandle" ∧ y_Log_init.cls ≠ "java/lang/invoke/VarHandle" ∧ (parseMethodDescriptor y_Log_init.desc).map (fun d => d.parameters.length) = some 1 := by decide +kernel
theorem ky_Storage_init : y_Storage_init.cls ≠ "java/lang/invoke/MethodHandle" ∧ y_Storage_init.cls ≠ "java/lang/invoke/VarHandle" ∧ (parseMethodDescriptor y_Storage_init.desc).map (fun d => d.parameters.length) = some 1 := by decide +kernel
theorem ky_Writes_init : y_Writes_init.cls ≠ "java/lang/invoke/MethodHandle" ∧ y_Writes_init.cls ≠ "java/lang/invoke/VarHandle" ∧ (parseMethodDescriptor y_Writes_init.desc).map (fun d => d.parameters.length) = some 0 := by decide +kernel
theorem ky_Client_init : y_Client_init.cls ≠ "java/lang/invoke/MethodHandle" ∧ y_Client_init.cls ≠ "java/lang/invoke/VarHandle" ∧ (parseMethodDescriptor y_Client_init.desc).map (fun d => d.parameters.length) = some 1 := by decide +kernel
theorem ky_Master_init : y_Master_init.cls ≠ "java/lang/invoke/MethodHandle" ∧ y_Master_init.cls ≠ "java/lang/invoke/VarHandle" ∧ (parseMethodDescriptor y_Master_init.desc).map (fun d => d.parameters.length) = some 3 := by decide +kernel
theorem ky_ES_init : y_ES_init.cls ≠ "java/lang/invoke/MethodHandle" ∧ y_ES_init.cls ≠ "java/lang/invoke/VarHandle" ∧ (parseMethodDescriptor y_ES_init.desc).map (fun d => d.parameters.length) = some 0 := by decide +kernel
theorem ky_ES_epochOfMajority : y_ES_epochOfMajority.cls = Rn_ES ∧ y_ES_epochOfMajority.cls ≠ "java/lang/invoke/MethodHandle" ∧ y_ES_epochOfMajority.cls ≠ "java/lang/invoke/VarHandle" ∧ (parseMethodDescriptor y_ES_epochOfMajority.desc).map (fun d => d.parameters.length) = some 0 := by decide +kernel
theorem ky_ES_isClient : y_ES_isClient.cls = Rn_ES ∧ y_ES_isClient.cls ≠ "java/lang/invoke/MethodHandle" ∧ y_ES_isClient.cls ≠ "java/lang/invoke/VarHandle" ∧ (parseMethodDescriptor y_ES_isClient.desc).map (fun d => d.parameters.length) = some 1 := by decide +kernel
theorem ky_ES_find : y_ES_find.cls = Rn_ES ∧ y_ES_find.cls ≠ "java/lang/invoke/MethodHandle" ∧ y_ES_find.cls ≠ "java/lang/invoke/VarHandle" ∧ (parseMethodDescriptor y_ES_find.desc).map (fun d => d.parameters.length) = some 1 := by decide +kernel
theorem ky_Client_isBusy : y_Client_isBusy.cls = Rn_Client ∧ y_Client_isBusy.cls ≠ "java/lang/invoke/MethodHandle" ∧ y_Client_isBusy.cls ≠ "java/lang/invoke/VarHandle" ∧ (parseMethodDescriptor y_Client_isBusy.desc).map (fun d => d.parameters.length) = some 0 := by decide +kernel
theorem ky_Message_reset : y_Message_reset.cls = Rn_Message ∧ y_Message_reset.cls ≠ "java/lang/invoke/MethodHandle" ∧ y_Message_reset.cls ≠ "java/lang/invoke/VarHandle" ∧ (parseMethodDescriptor y_Message_reset.desc).map (fun d => d.parameters.length) = some 3 := by decide +kernel
theorem ky_Line_send : y_Line_send.cls = Rn_Line ∧ y_Line_send.cls ≠ "java/lang/invoke/MethodHandle" ∧ y_Line_send.cls ≠ "java/lang/invoke/VarHandle" ∧ (parseMethodDescriptor y_Line_send.desc).map (fun d => d.parameters.length) = some 3 := by decide +kernel
theorem ky_Client_ask : y_Client_ask.cls = Rn_Client ∧ y_Client_ask.cls ≠ "java/lang/invoke/MethodHandle" ∧ y_Client_ask.cls ≠ "java/lang/invoke/VarHandle" ∧ (parseMethodDescriptor y_Client_ask.desc).map (fun d => d.parameters.length) = some 1 := by decide +kernel
theorem ky_ES_begin : y_ES_begin.cls = Rn_ES ∧ y_ES_begin.cls ≠ "java/lang/invoke/MethodHandle" ∧ y_ES_begin.cls ≠ "java/lang/invoke/VarHandle" ∧ (parseMethodDescriptor y_ES_begin.desc).map (fun d => d.parameters.length) = some 1 := by decide +kernel
theorem ky_ES_isOpen : y_ES_isOpen.cls = Rn_ES ∧ y_ES_isOpen.cls ≠ "java/lang/invoke/MethodHandle" ∧ y_ES_isOpen.cls ≠ "java/lang/invoke/VarHandle" ∧ (parseMethodDescriptor y_ES_isOpen.desc).map (fun d => d.parameters.length) = some 1 := by decide +kernel
theorem ky_ES_isKey : y_ES_isKey.cls = Rn_ES ∧ y_ES_isKey.cls ≠ "java/lang/invoke/MethodHandle" ∧ y_ES_isKey.cls ≠ "java/lang/invoke/VarHandle" ∧ (parseMethodDescriptor y_ES_isKey.desc).map (fun d => d.parameters.length) = some 1 := by decide +kernel
theorem ky_Writes_has : y_Writes_has.cls = Rn_Writes ∧ y_Writes_has.cls ≠ "java/lang/invoke/MethodHandle" ∧ y_Writes_has.cls ≠ "java/lang/invoke/VarHandle" ∧ (parseMethodDescriptor y_Writes_has.desc).map (fun d => d.parameters.length) = some 1 := by decide +kernel
theorem ky_Storage_valueAt : y_Storage_valueAt.cls = Rn_Storage ∧ y_Storage_valueAt.cls ≠ "java/lang/invoke/MethodHandle" ∧ y_Storage_valueAt.cls ≠ "java/lang/invoke/VarHandle" ∧ (parseMethodDescriptor y_Storage_valueAt.desc).map (fun d => d.parameters.length) = some 3 := by decide +kernel
theorem ky_ES_valueFor : y_ES_valueFor.cls = Rn_ES ∧ y_ES_valueFor.cls ≠ "java/lang/invoke/MethodHandle" ∧ y_ES_valueFor.cls ≠ "java/lang/invoke/VarHandle" ∧ (parseMethodDescriptor y_ES_valueFor.desc).map (fun d => d.parameters.length) = some 2 := by decide +kernel
theorem ky_ES_isValue : y_ES_isValue.cls = Rn_ES ∧ y_ES_isValue.cls ≠ "java/lang/invoke/MethodHandle" ∧ y_ES_isValue.cls ≠ "java/lang/invoke/VarHandle" ∧ (parseMethodDescriptor y_ES_isValue.desc).map (fun d => d.parameters.length) = some 1 := by decide +kernel
theorem ky_Client_noteUnwritten : y_Client_noteUnwritten.cls = Rn_Client ∧ y_Client_noteUnwritten.cls ≠ "java/lang/invoke/MethodHandle" ∧ y_Client_noteUnwritten.cls ≠ "java/lang/invoke/VarHandle" ∧ (parseMethodDescriptor y_Client_noteUnwritten.desc).map (fun d => d.parameters.length) = some 1 := by decide +kernel
theorem ky_ES_read : y_ES_read.cls = Rn_ES ∧ y_ES_read.cls ≠ "java/lang/invoke/MethodHandle" ∧ y_ES_read.cls ≠ "java/lang/invoke/VarHandle" ∧ (parseMethodDescriptor y_ES_read.desc).map (fun d => d.parameters.length) = some 2 := by decide +kernel
theorem ky_ES_range : y_ES_range.cls = Rn_ES ∧ y_ES_range.cls ≠ "java/lang/invoke/MethodHandle" ∧ y_ES_range.cls ≠ "java/lang/invoke/VarHandle" ∧ (parseMethodDescriptor y_ES_range.desc).map (fun d => d.parameters.length) = some 3 := by decide +kernel
theorem ky_Writes_put : y_Writes_put.cls = Rn_Writes ∧ y_Writes_put.cls ≠ "java/lang/invoke/MethodHandle" ∧ y_Writes_put.cls ≠ "java/lang/invoke/VarHandle" ∧ (parseMethodDescriptor y_Writes_put.desc).map (fun d => d.parameters.length) = some 2 := by decide +kernel
theorem ky_ES_write : y_ES_write.cls = Rn_ES ∧ y_ES_write.cls ≠ "java/lang/invoke/MethodHandle" ∧ y_ES_write.cls ≠ "java/lang/invoke/VarHandle" ∧ (parseMethodDescriptor y_ES_write.desc).map (fun d => d.parameters.length) = some 3 := by decide +kernel
theorem ky_Client_finish : y_Client_finish.cls = Rn_Client ∧ y_Client_finish.cls ≠ "java/lang/invoke/MethodHandle" ∧ y_Client_finish.cls ≠ "java/lang/invoke/VarHandle" ∧ (parseMethodDescriptor y_Client_finish.desc).map (fun d => d.parameters.length) = some 1 := by decide +kernel
theorem ky_ES_commit : y_ES_commit.cls = Rn_ES ∧ y_ES_commit.cls ≠ "java/lang/invoke/MethodHandle" ∧ y_ES_commit.cls ≠ "java/lang/invoke/VarHandle" ∧ (parseMethodDescriptor y_ES_commit.desc).map (fun d => d.parameters.length) = some 1 := by decide +kernel
theorem ky_Client_drop : y_Client_drop.cls = Rn_Client ∧ y_Client_drop.cls ≠ "java/lang/invoke/MethodHandle" ∧ y_Client_drop.cls ≠ "java/lang/invoke/VarHandle" ∧ (parseMethodDescriptor y_Client_drop.desc).map (fun d => d.parameters.length) = some 0 := by decide +kernel
theorem ky_ES_giveUp : y_ES_giveUp.cls = Rn_ES ∧ y_ES_giveUp.cls ≠ "java/lang/invoke/MethodHandle" ∧ y_ES_giveUp.cls ≠ "java/lang/invoke/VarHandle" ∧ (parseMethodDescriptor y_ES_giveUp.desc).map (fun d => d.parameters.length) = some 1 := by decide +kernel
theorem ky_Client_code : y_Client_code.cls = Rn_Client ∧ y_Client_code.cls ≠ "java/lang/invoke/MethodHandle" ∧ y_Client_code.cls ≠ "java/lang/invoke/VarHandle" ∧ (parseMethodDescriptor y_Client_code.desc).map (fun d => d.parameters.length) = some 0 := by decide +kernel
theorem ky_ES_status : y_ES_status.cls = Rn_ES ∧ y_ES_status.cls ≠ "java/lang/invoke/MethodHandle" ∧ y_ES_status.cls ≠ "java/lang/invoke/VarHandle" ∧ (parseMethodDescriptor y_ES_status.desc).map (fun d => d.parameters.length) = some 1 := by decide +kernel
theorem ky_ES_messages : y_ES_messages.cls = Rn_ES ∧ y_ES_messages.cls ≠ "java/lang/invoke/MethodHandle" ∧ y_ES_messages.cls ≠ "java/lang/invoke/VarHandle" ∧ (parseMethodDescriptor y_ES_messages.desc).map (fun d => d.parameters.length) = some 0 := by decide +kernel
theorem ky_Line_has : y_Line_has.cls = Rn_Line ∧ y_Line_has.cls ≠ "java/lang/invoke/MethodHandle" ∧ y_Line_has.cls ≠ "java/lang/invoke/VarHandle" ∧ (parseMethodDescriptor y_Line_has.desc).map (fun d => d.parameters.length) = some 1 := by decide +kernel
theorem ky_Message_code : y_Message_code.cls = Rn_Message ∧ y_Message_code.cls ≠ "java/lang/invoke/MethodHandle" ∧ y_Message_code.cls ≠ "java/lang/invoke/VarHandle" ∧ (parseMethodDescriptor y_Message_code.desc).map (fun d => d.parameters.length) = some 0 := by decide +kernel
theorem ky_ES_message : y_ES_message.cls = Rn_ES ∧ y_ES_message.cls ≠ "java/lang/invoke/MethodHandle" ∧ y_ES_message.cls ≠ "java/lang/invoke/VarHandle" ∧ (parseMethodDescriptor y_ES_message.desc).map (fun d => d.parameters.length) = some 1 := by decide +kernel
theorem ky_Line_take : y_Line_take.cls = Rn_Line ∧ y_Line_take.cls ≠ "java/lang/invoke/MethodHandle" ∧ y_Line_take.cls ≠ "java/lang/invoke/VarHandle" ∧ (parseMethodDescriptor y_Line_take.desc).map (fun d => d.parameters.length) = some 1 := by decide +kernel
theorem ky_Log_takeRecord : y_Log_takeRecord.cls = Rn_Log ∧ y_Log_takeRecord.cls ≠ "java/lang/invoke/MethodHandle" ∧ y_Log_takeRecord.cls ≠ "java/lang/invoke/VarHandle" ∧ (parseMethodDescriptor y_Log_takeRecord.desc).map (fun d => d.parameters.length) = some 1 := by decide +kernel
theorem ky_Log_receive : y_Log_receive.cls = Rn_Log ∧ y_Log_receive.cls ≠ "java/lang/invoke/MethodHandle" ∧ y_Log_receive.cls ≠ "java/lang/invoke/VarHandle" ∧ (parseMethodDescriptor y_Log_receive.desc).map (fun d => d.parameters.length) = some 2 := by decide +kernel
theorem ky_Client_receive : y_Client_receive.cls = Rn_Client ∧ y_Client_receive.cls ≠ "java/lang/invoke/MethodHandle" ∧ y_Client_receive.cls ≠ "java/lang/invoke/VarHandle" ∧ (parseMethodDescriptor y_Client_receive.desc).map (fun d => d.parameters.length) = some 1 := by decide +kernel
theorem ky_ES_isMaster : y_ES_isMaster.cls = Rn_ES ∧ y_ES_isMaster.cls ≠ "java/lang/invoke/MethodHandle" ∧ y_ES_isMaster.cls ≠ "java/lang/invoke/VarHandle" ∧ (parseMethodDescriptor y_ES_isMaster.desc).map (fun d => d.parameters.length) = some 1 := by decide +kernel
theorem ky_Question_init : y_Question_init.cls ≠ "java/lang/invoke/MethodHandle" ∧ y_Question_init.cls ≠ "java/lang/invoke/VarHandle" ∧ (parseMethodDescriptor y_Question_init.desc).map (fun d => d.parameters.length) = some 3 := by decide +kernel
theorem ky_Master_openQuestion : y_Master_openQuestion.cls = Rn_Master ∧ y_Master_openQuestion.cls ≠ "java/lang/invoke/MethodHandle" ∧ y_Master_openQuestion.cls ≠ "java/lang/invoke/VarHandle" ∧ (parseMethodDescriptor y_Master_openQuestion.desc).map (fun d => d.parameters.length) = some 2 := by decide +kernel
theorem ky_Master_placeOfQuestion : y_Master_placeOfQuestion.cls = Rn_Master ∧ y_Master_placeOfQuestion.cls ≠ "java/lang/invoke/MethodHandle" ∧ y_Master_placeOfQuestion.cls ≠ "java/lang/invoke/VarHandle" ∧ (parseMethodDescriptor y_Master_placeOfQuestion.desc).map (fun d => d.parameters.length) = some 1 := by decide +kernel
theorem ky_Master_answer : y_Master_answer.cls = Rn_Master ∧ y_Master_answer.cls ≠ "java/lang/invoke/MethodHandle" ∧ y_Master_answer.cls ≠ "java/lang/invoke/VarHandle" ∧ (parseMethodDescriptor y_Master_answer.desc).map (fun d => d.parameters.length) = some 2 := by decide +kernel
theorem ky_Master_removeQuestion : y_Master_removeQuestion.cls = Rn_Master ∧ y_Master_removeQuestion.cls ≠ "java/lang/invoke/MethodHandle" ∧ y_Master_removeQuestion.cls ≠ "java/lang/invoke/VarHandle" ∧ (parseMethodDescriptor y_Master_removeQuestion.desc).map (fun d => d.parameters.length) = some 1 := by decide +kernel
theorem ky_Master_takeConfirmation : y_Master_takeConfirmation.cls = Rn_Master ∧ y_Master_takeConfirmation.cls ≠ "java/lang/invoke/MethodHandle" ∧ y_Master_takeConfirmation.cls ≠ "java/lang/invoke/VarHandle" ∧ (parseMethodDescriptor y_Master_takeConfirmation.desc).map (fun d => d.parameters.length) = some 2 := by decide +kernel
theorem ky_Master_sendResult : y_Master_sendResult.cls = Rn_Master ∧ y_Master_sendResult.cls ≠ "java/lang/invoke/MethodHandle" ∧ y_Master_sendResult.cls ≠ "java/lang/invoke/VarHandle" ∧ (parseMethodDescriptor y_Master_sendResult.desc).map (fun d => d.parameters.length) = some 4 := by decide +kernel
theorem ky_Master_findsConflict : y_Master_findsConflict.cls = Rn_Master ∧ y_Master_findsConflict.cls ≠ "java/lang/invoke/MethodHandle" ∧ y_Master_findsConflict.cls ≠ "java/lang/invoke/VarHandle" ∧ (parseMethodDescriptor y_Master_findsConflict.desc).map (fun d => d.parameters.length) = some 2 := by decide +kernel
theorem ky_Master_letPass : y_Master_letPass.cls = Rn_Master ∧ y_Master_letPass.cls ≠ "java/lang/invoke/MethodHandle" ∧ y_Master_letPass.cls ≠ "java/lang/invoke/VarHandle" ∧ (parseMethodDescriptor y_Master_letPass.desc).map (fun d => d.parameters.length) = some 2 := by decide +kernel
theorem ky_Master_passesResolvers : y_Master_passesResolvers.cls = Rn_Master ∧ y_Master_passesResolvers.cls ≠ "java/lang/invoke/MethodHandle" ∧ y_Master_passesResolvers.cls ≠ "java/lang/invoke/VarHandle" ∧ (parseMethodDescriptor y_Master_passesResolvers.desc).map (fun d => d.parameters.length) = some 1 := by decide +kernel
theorem ky_Entry_init : y_Entry_init.cls ≠ "java/lang/invoke/MethodHandle" ∧ y_Entry_init.cls ≠ "java/lang/invoke/VarHandle" ∧ (parseMethodDescriptor y_Entry_init.desc).map (fun d => d.parameters.length) = some 3 := by decide +kernel
theorem ky_OnWay_init : y_OnWay_init.cls ≠ "java/lang/invoke/MethodHandle" ∧ y_OnWay_init.cls ≠ "java/lang/invoke/VarHandle" ∧ (parseMethodDescriptor y_OnWay_init.desc).map (fun d => d.parameters.length) = some 3 := by decide +kernel
theorem ky_Master_pushToOthers : y_Master_pushToOthers.cls = Rn_Master ∧ y_Master_pushToOthers.cls ≠ "java/lang/invoke/MethodHandle" ∧ y_Master_pushToOthers.cls ≠ "java/lang/invoke/VarHandle" ∧ (parseMethodDescriptor y_Master_pushToOthers.desc).map (fun d => d.parameters.length) = some 2 := by decide +kernel
theorem ky_Master_putOnWay : y_Master_putOnWay.cls = Rn_Master ∧ y_Master_putOnWay.cls ≠ "java/lang/invoke/MethodHandle" ∧ y_Master_putOnWay.cls ≠ "java/lang/invoke/VarHandle" ∧ (parseMethodDescriptor y_Master_putOnWay.desc).map (fun d => d.parameters.length) = some 2 := by decide +kernel
theorem ky_Master_decide : y_Master_decide.cls = Rn_Master ∧ y_Master_decide.cls ≠ "java/lang/invoke/MethodHandle" ∧ y_Master_decide.cls ≠ "java/lang/invoke/VarHandle" ∧ (parseMethodDescriptor y_Master_decide.desc).map (fun d => d.parameters.length) = some 2 := by decide +kernel
theorem ky_Master_takeAcknowledgement : y_Master_takeAcknowledgement.cls = Rn_Master ∧ y_Master_takeAcknowledgement.cls ≠ "java/lang/invoke/MethodHandle" ∧ y_Master_takeAcknowledgement.cls ≠ "java/lang/invoke/VarHandle" ∧ (parseMethodDescriptor y_Master_takeAcknowledgement.desc).map (fun d => d.parameters.length) = some 1 := by decide +kernel
theorem ky_Master_removeOldestOnWay : y_Master_removeOldestOnWay.cls = Rn_Master ∧ y_Master_removeOldestOnWay.cls ≠ "java/lang/invoke/MethodHandle" ∧ y_Master_removeOldestOnWay.cls ≠ "java/lang/invoke/VarHandle" ∧ (parseMethodDescriptor y_Master_removeOldestOnWay.desc).map (fun d => d.parameters.length) = some 1 := by decide +kernel
theorem ky_Master_settle : y_Master_settle.cls = Rn_Master ∧ y_Master_settle.cls ≠ "java/lang/invoke/MethodHandle" ∧ y_Master_settle.cls ≠ "java/lang/invoke/VarHandle" ∧ (parseMethodDescriptor y_Master_settle.desc).map (fun d => d.parameters.length) = some 1 := by decide +kernel
theorem ky_Master_receive : y_Master_receive.cls = Rn_Master ∧ y_Master_receive.cls ≠ "java/lang/invoke/MethodHandle" ∧ y_Master_receive.cls ≠ "java/lang/invoke/VarHandle" ∧ (parseMethodDescriptor y_Master_receive.desc).map (fun d => d.parameters.length) = some 2 := by decide +kernel
theorem ky_ES_deliver : y_ES_deliver.cls = Rn_ES ∧ y_ES_deliver.cls ≠ "java/lang/invoke/MethodHandle" ∧ y_ES_deliver.cls ≠ "java/lang/invoke/VarHandle" ∧ (parseMethodDescriptor y_ES_deliver.desc).map (fun d => d.parameters.length) = some 1 := by decide +kernel
theorem ky_ES_lose : y_ES_lose.cls = Rn_ES ∧ y_ES_lose.cls ≠ "java/lang/invoke/MethodHandle" ∧ y_ES_lose.cls ≠ "java/lang/invoke/VarHandle" ∧ (parseMethodDescriptor y_ES_lose.desc).map (fun d => d.parameters.length) = some 1 := by decide +kernel
theorem ky_ES_stopMaster : y_ES_stopMaster.cls = Rn_ES ∧ y_ES_stopMaster.cls ≠ "java/lang/invoke/MethodHandle" ∧ y_ES_stopMaster.cls ≠ "java/lang/invoke/VarHandle" ∧ (parseMethodDescriptor y_ES_stopMaster.desc).map (fun d => d.parameters.length) = some 1 := by decide +kernel
theorem ky_ES_isCoordinator : y_ES_isCoordinator.cls = Rn_ES ∧ y_ES_isCoordinator.cls ≠ "java/lang/invoke/MethodHandle" ∧ y_ES_isCoordinator.cls ≠ "java/lang/invoke/VarHandle" ∧ (parseMethodDescriptor y_ES_isCoordinator.desc).map (fun d => d.parameters.length) = some 1 := by decide +kernel
theorem ky_ES_isLog : y_ES_isLog.cls = Rn_ES ∧ y_ES_isLog.cls ≠ "java/lang/invoke/MethodHandle" ∧ y_ES_isLog.cls ≠ "java/lang/invoke/VarHandle" ∧ (parseMethodDescriptor y_ES_isLog.desc).map (fun d => d.parameters.length) = some 1 := by decide +kernel
theorem ky_ES_isStorage : y_ES_isStorage.cls = Rn_ES ∧ y_ES_isStorage.cls ≠ "java/lang/invoke/MethodHandle" ∧ y_ES_isStorage.cls ≠ "java/lang/invoke/VarHandle" ∧ (parseMethodDescriptor y_ES_isStorage.desc).map (fun d => d.parameters.length) = some 1 := by decide +kernel
theorem ky_ES_isServer : y_ES_isServer.cls = Rn_ES ∧ y_ES_isServer.cls ≠ "java/lang/invoke/MethodHandle" ∧ y_ES_isServer.cls ≠ "java/lang/invoke/VarHandle" ∧ (parseMethodDescriptor y_ES_isServer.desc).map (fun d => d.parameters.length) = some 2 := by decide +kernel
theorem ky_ES_isUp : y_ES_isUp.cls = Rn_ES ∧ y_ES_isUp.cls ≠ "java/lang/invoke/MethodHandle" ∧ y_ES_isUp.cls ≠ "java/lang/invoke/VarHandle" ∧ (parseMethodDescriptor y_ES_isUp.desc).map (fun d => d.parameters.length) = some 2 := by decide +kernel
theorem ky_ES_setUp : y_ES_setUp.cls = Rn_ES ∧ y_ES_setUp.cls ≠ "java/lang/invoke/MethodHandle" ∧ y_ES_setUp.cls ≠ "java/lang/invoke/VarHandle" ∧ (parseMethodDescriptor y_ES_setUp.desc).map (fun d => d.parameters.length) = some 3 := by decide +kernel
theorem ky_ES_stop : y_ES_stop.cls = Rn_ES ∧ y_ES_stop.cls ≠ "java/lang/invoke/MethodHandle" ∧ y_ES_stop.cls ≠ "java/lang/invoke/VarHandle" ∧ (parseMethodDescriptor y_ES_stop.desc).map (fun d => d.parameters.length) = some 2 := by decide +kernel
theorem ky_ES_start : y_ES_start.cls = Rn_ES ∧ y_ES_start.cls ≠ "java/lang/invoke/MethodHandle" ∧ y_ES_start.cls ≠ "java/lang/invoke/VarHandle" ∧ (parseMethodDescriptor y_ES_start.desc).map (fun d => d.parameters.length) = some 2 := by decide +kernel
theorem ky_Storage_goBackTo : y_Storage_goBackTo.cls = Rn_Storage ∧ y_Storage_goBackTo.cls ≠ "java/lang/invoke/MethodHandle" ∧ y_Storage_goBackTo.cls ≠ "java/lang/invoke/VarHandle" ∧ (parseMethodDescriptor y_Storage_goBackTo.desc).map (fun d => d.parameters.length) = some 1 := by decide +kernel
theorem ky_Log_firstAbove : y_Log_firstAbove.cls = Rn_Log ∧ y_Log_firstAbove.cls ≠ "java/lang/invoke/MethodHandle" ∧ y_Log_firstAbove.cls ≠ "java/lang/invoke/VarHandle" ∧ (parseMethodDescriptor y_Log_firstAbove.desc).map (fun d => d.parameters.length) = some 1 := by decide +kernel
theorem ky_Storage_keep : y_Storage_keep.cls = Rn_Storage ∧ y_Storage_keep.cls ≠ "java/lang/invoke/MethodHandle" ∧ y_Storage_keep.cls ≠ "java/lang/invoke/VarHandle" ∧ (parseMethodDescriptor y_Storage_keep.desc).map (fun d => d.parameters.length) = some 1 := by decide +kernel
theorem ky_Storage_advanceFrom : y_Storage_advanceFrom.cls = Rn_Storage ∧ y_Storage_advanceFrom.cls ≠ "java/lang/invoke/MethodHandle" ∧ y_Storage_advanceFrom.cls ≠ "java/lang/invoke/VarHandle" ∧ (parseMethodDescriptor y_Storage_advanceFrom.desc).map (fun d => d.parameters.length) = some 1 := by decide +kernel
theorem ky_ES_pull : y_ES_pull.cls = Rn_ES ∧ y_ES_pull.cls ≠ "java/lang/invoke/MethodHandle" ∧ y_ES_pull.cls ≠ "java/lang/invoke/VarHandle" ∧ (parseMethodDescriptor y_ES_pull.desc).map (fun d => d.parameters.length) = some 2 := by decide +kernel
theorem ky_Master_pushAgain : y_Master_pushAgain.cls = Rn_Master ∧ y_Master_pushAgain.cls ≠ "java/lang/invoke/MethodHandle" ∧ y_Master_pushAgain.cls ≠ "java/lang/invoke/VarHandle" ∧ (parseMethodDescriptor y_Master_pushAgain.desc).map (fun d => d.parameters.length) = some 1 := by decide +kernel
theorem ky_ES_push : y_ES_push.cls = Rn_ES ∧ y_ES_push.cls ≠ "java/lang/invoke/MethodHandle" ∧ y_ES_push.cls ≠ "java/lang/invoke/VarHandle" ∧ (parseMethodDescriptor y_ES_push.desc).map (fun d => d.parameters.length) = some 1 := by decide +kernel
theorem ky_ES_raiseCoordinators : y_ES_raiseCoordinators.cls = Rn_ES ∧ y_ES_raiseCoordinators.cls ≠ "java/lang/invoke/MethodHandle" ∧ y_ES_raiseCoordinators.cls ≠ "java/lang/invoke/VarHandle" ∧ (parseMethodDescriptor y_ES_raiseCoordinators.desc).map (fun d => d.parameters.length) = some 1 := by decide +kernel
theorem ky_Log_copyFrom : y_Log_copyFrom.cls = Rn_Log ∧ y_Log_copyFrom.cls ≠ "java/lang/invoke/MethodHandle" ∧ y_Log_copyFrom.cls ≠ "java/lang/invoke/VarHandle" ∧ (parseMethodDescriptor y_Log_copyFrom.desc).map (fun d => d.parameters.length) = some 1 := by decide +kernel
theorem ky_Log_enter : y_Log_enter.cls = Rn_Log ∧ y_Log_enter.cls ≠ "java/lang/invoke/MethodHandle" ∧ y_Log_enter.cls ≠ "java/lang/invoke/VarHandle" ∧ (parseMethodDescriptor y_Log_enter.desc).map (fun d => d.parameters.length) = some 3 := by decide +kernel
theorem ky_ES_beginEpoch : y_ES_beginEpoch.cls = Rn_ES ∧ y_ES_beginEpoch.cls ≠ "java/lang/invoke/MethodHandle" ∧ y_ES_beginEpoch.cls ≠ "java/lang/invoke/VarHandle" ∧ (parseMethodDescriptor y_ES_beginEpoch.desc).map (fun d => d.parameters.length) = some 2 := by decide +kernel
theorem ky_ES_recover : y_ES_recover.cls = Rn_ES ∧ y_ES_recover.cls ≠ "java/lang/invoke/MethodHandle" ∧ y_ES_recover.cls ≠ "java/lang/invoke/VarHandle" ∧ (parseMethodDescriptor y_ES_recover.desc).map (fun d => d.parameters.length) = some 1 := by decide +kernel
theorem ky_Log_code : y_Log_code.cls = Rn_Log ∧ y_Log_code.cls ≠ "java/lang/invoke/MethodHandle" ∧ y_Log_code.cls ≠ "java/lang/invoke/VarHandle" ∧ (parseMethodDescriptor y_Log_code.desc).map (fun d => d.parameters.length) = some 0 := by decide +kernel
theorem ky_ES_log : y_ES_log.cls = Rn_ES ∧ y_ES_log.cls ≠ "java/lang/invoke/MethodHandle" ∧ y_ES_log.cls ≠ "java/lang/invoke/VarHandle" ∧ (parseMethodDescriptor y_ES_log.desc).map (fun d => d.parameters.length) = some 1 := by decide +kernel
theorem ky_Storage_code : y_Storage_code.cls = Rn_Storage ∧ y_Storage_code.cls ≠ "java/lang/invoke/MethodHandle" ∧ y_Storage_code.cls ≠ "java/lang/invoke/VarHandle" ∧ (parseMethodDescriptor y_Storage_code.desc).map (fun d => d.parameters.length) = some 0 := by decide +kernel
theorem ky_ES_storage : y_ES_storage.cls = Rn_ES ∧ y_ES_storage.cls ≠ "java/lang/invoke/MethodHandle" ∧ y_ES_storage.cls ≠ "java/lang/invoke/VarHandle" ∧ (parseMethodDescriptor y_ES_storage.desc).map (fun d => d.parameters.length) = some 1 := by decide +kernel
theorem ky_Master_code : y_Master_code.cls = Rn_Master ∧ y_Master_code.cls ≠ "java/lang/invoke/MethodHandle" ∧ y_Master_code.cls ≠ "java/lang/invoke/VarHandle" ∧ (parseMethodDescriptor y_Master_code.desc).map (fun d => d.parameters.length) = some 0 := by decide +kernel
theorem ky_ES_master : y_ES_master.cls = Rn_ES ∧ y_ES_master.cls ≠ "java/lang/invoke/MethodHandle" ∧ y_ES_master.cls ≠ "java/lang/invoke/VarHandle" ∧ (parseMethodDescriptor y_ES_master.desc).map (fun d => d.parameters.length) = some 1 := by decide +kernel
theorem ky_ES_committed : y_ES_committed.cls = Rn_ES ∧ y_ES_committed.cls ≠ "java/lang/invoke/MethodHandle" ∧ y_ES_committed.cls ≠ "java/lang/invoke/VarHandle" ∧ (parseMethodDescriptor y_ES_committed.desc).map (fun d => d.parameters.length) = some 1 := by decide +kernel
theorem ky_Coordinator_code : y_Coordinator_code.cls = Rn_Coordinator ∧ y_Coordinator_code.cls ≠ "java/lang/invoke/MethodHandle" ∧ y_Coordinator_code.cls ≠ "java/lang/invoke/VarHandle" ∧ (parseMethodDescriptor y_Coordinator_code.desc).map (fun d => d.parameters.length) = some 0 := by decide +kernel
theorem ky_ES_coordinator : y_ES_coordinator.cls = Rn_ES ∧ y_ES_coordinator.cls ≠ "java/lang/invoke/MethodHandle" ∧ y_ES_coordinator.cls ≠ "java/lang/invoke/VarHandle" ∧ (parseMethodDescriptor y_ES_coordinator.desc).map (fun d => d.parameters.length) = some 1 := by decide +kernel
theorem ky_EM_init : y_EM_init.cls ≠ "java/lang/invoke/MethodHandle" ∧ y_EM_init.cls ≠ "java/lang/invoke/VarHandle" ∧ (parseMethodDescriptor y_EM_init.desc).map (fun d => d.parameters.length) = some 0 := by decide +kernel
theorem ky_EM_send : y_EM_send.cls = Rn_EM ∧ y_EM_send.cls ≠ "java/lang/invoke/MethodHandle" ∧ y_EM_send.cls ≠ "java/lang/invoke/VarHandle" ∧ (parseMethodDescriptor y_EM_send.desc).map (fun d => d.parameters.length) = some 5 := by decide +kernel
theorem ky_EM_copyMessage : y_EM_copyMessage.cls = Rn_EM ∧ y_EM_copyMessage.cls ≠ "java/lang/invoke/MethodHandle" ∧ y_EM_copyMessage.cls ≠ "java/lang/invoke/VarHandle" ∧ (parseMethodDescriptor y_EM_copyMessage.desc).map (fun d => d.parameters.length) = some 2 := by decide +kernel
theorem ky_EM_take : y_EM_take.cls = Rn_EM ∧ y_EM_take.cls ≠ "java/lang/invoke/MethodHandle" ∧ y_EM_take.cls ≠ "java/lang/invoke/VarHandle" ∧ (parseMethodDescriptor y_EM_take.desc).map (fun d => d.parameters.length) = some 1 := by decide +kernel
theorem ky_EM_messages : y_EM_messages.cls = Rn_EM ∧ y_EM_messages.cls ≠ "java/lang/invoke/MethodHandle" ∧ y_EM_messages.cls ≠ "java/lang/invoke/VarHandle" ∧ (parseMethodDescriptor y_EM_messages.desc).map (fun d => d.parameters.length) = some 0 := by decide +kernel
theorem ky_EM_message : y_EM_message.cls = Rn_EM ∧ y_EM_message.cls ≠ "java/lang/invoke/MethodHandle" ∧ y_EM_message.cls ≠ "java/lang/invoke/VarHandle" ∧ (parseMethodDescriptor y_EM_message.desc).map (fun d => d.parameters.length) = some 1 := by decide +kernel
theorem ky_EM_lose : y_EM_lose.cls = Rn_EM ∧ y_EM_lose.cls ≠ "java/lang/invoke/MethodHandle" ∧ y_EM_lose.cls ≠ "java/lang/invoke/VarHandle" ∧ (parseMethodDescriptor y_EM_lose.desc).map (fun d => d.parameters.length) = some 1 := by decide +kernel
theorem ky_EM_pushed : y_EM_pushed.cls = Rn_EM ∧ y_EM_pushed.cls ≠ "java/lang/invoke/MethodHandle" ∧ y_EM_pushed.cls ≠ "java/lang/invoke/VarHandle" ∧ (parseMethodDescriptor y_EM_pushed.desc).map (fun d => d.parameters.length) = some 3 := by decide +kernel
theorem ky_EM_ask : y_EM_ask.cls = Rn_EM ∧ y_EM_ask.cls ≠ "java/lang/invoke/MethodHandle" ∧ y_EM_ask.cls ≠ "java/lang/invoke/VarHandle" ∧ (parseMethodDescriptor y_EM_ask.desc).map (fun d => d.parameters.length) = some 3 := by decide +kernel
theorem ky_EM_confirmed : y_EM_confirmed.cls = Rn_EM ∧ y_EM_confirmed.cls ≠ "java/lang/invoke/MethodHandle" ∧ y_EM_confirmed.cls ≠ "java/lang/invoke/VarHandle" ∧ (parseMethodDescriptor y_EM_confirmed.desc).map (fun d => d.parameters.length) = some 3 := by decide +kernel
theorem ky_EM_result : y_EM_result.cls = Rn_EM ∧ y_EM_result.cls ≠ "java/lang/invoke/MethodHandle" ∧ y_EM_result.cls ≠ "java/lang/invoke/VarHandle" ∧ (parseMethodDescriptor y_EM_result.desc).map (fun d => d.parameters.length) = some 5 := by decide +kernel
theorem ky_EM_finds : y_EM_finds.cls = Rn_EM ∧ y_EM_finds.cls ≠ "java/lang/invoke/MethodHandle" ∧ y_EM_finds.cls ≠ "java/lang/invoke/VarHandle" ∧ (parseMethodDescriptor y_EM_finds.desc).map (fun d => d.parameters.length) = some 3 := by decide +kernel
theorem ky_EM_pushOut : y_EM_pushOut.cls = Rn_EM ∧ y_EM_pushOut.cls ≠ "java/lang/invoke/MethodHandle" ∧ y_EM_pushOut.cls ≠ "java/lang/invoke/VarHandle" ∧ (parseMethodDescriptor y_EM_pushOut.desc).map (fun d => d.parameters.length) = some 2 := by decide +kernel
theorem ky_EM_judge : y_EM_judge.cls = Rn_EM ∧ y_EM_judge.cls ≠ "java/lang/invoke/MethodHandle" ∧ y_EM_judge.cls ≠ "java/lang/invoke/VarHandle" ∧ (parseMethodDescriptor y_EM_judge.desc).map (fun d => d.parameters.length) = some 4 := by decide +kernel
theorem ky_EM_copyWay : y_EM_copyWay.cls = Rn_EM ∧ y_EM_copyWay.cls ≠ "java/lang/invoke/MethodHandle" ∧ y_EM_copyWay.cls ≠ "java/lang/invoke/VarHandle" ∧ (parseMethodDescriptor y_EM_copyWay.desc).map (fun d => d.parameters.length) = some 1 := by decide +kernel
theorem ky_EM_acknowledged : y_EM_acknowledged.cls = Rn_EM ∧ y_EM_acknowledged.cls ≠ "java/lang/invoke/MethodHandle" ∧ y_EM_acknowledged.cls ≠ "java/lang/invoke/VarHandle" ∧ (parseMethodDescriptor y_EM_acknowledged.desc).map (fun d => d.parameters.length) = some 3 := by decide +kernel
theorem ky_EM_toMaster : y_EM_toMaster.cls = Rn_EM ∧ y_EM_toMaster.cls ≠ "java/lang/invoke/MethodHandle" ∧ y_EM_toMaster.cls ≠ "java/lang/invoke/VarHandle" ∧ (parseMethodDescriptor y_EM_toMaster.desc).map (fun d => d.parameters.length) = some 5 := by decide +kernel
theorem ky_EM_hand : y_EM_hand.cls = Rn_EM ∧ y_EM_hand.cls ≠ "java/lang/invoke/MethodHandle" ∧ y_EM_hand.cls ≠ "java/lang/invoke/VarHandle" ∧ (parseMethodDescriptor y_EM_hand.desc).map (fun d => d.parameters.length) = some 3 := by decide +kernel
theorem ky_EM_deliver : y_EM_deliver.cls = Rn_EM ∧ y_EM_deliver.cls ≠ "java/lang/invoke/MethodHandle" ∧ y_EM_deliver.cls ≠ "java/lang/invoke/VarHandle" ∧ (parseMethodDescriptor y_EM_deliver.desc).map (fun d => d.parameters.length) = some 1 := by decide +kernel
theorem ky_EM_isMaster : y_EM_isMaster.cls = Rn_EM ∧ y_EM_isMaster.cls ≠ "java/lang/invoke/MethodHandle" ∧ y_EM_isMaster.cls ≠ "java/lang/invoke/VarHandle" ∧ (parseMethodDescriptor y_EM_isMaster.desc).map (fun d => d.parameters.length) = some 1 := by decide +kernel
theorem ky_EM_push : y_EM_push.cls = Rn_EM ∧ y_EM_push.cls ≠ "java/lang/invoke/MethodHandle" ∧ y_EM_push.cls ≠ "java/lang/invoke/VarHandle" ∧ (parseMethodDescriptor y_EM_push.desc).map (fun d => d.parameters.length) = some 1 := by decide +kernel
theorem ky_EM_master : y_EM_master.cls = Rn_EM ∧ y_EM_master.cls ≠ "java/lang/invoke/MethodHandle" ∧ y_EM_master.cls ≠ "java/lang/invoke/VarHandle" ∧ (parseMethodDescriptor y_EM_master.desc).map (fun d => d.parameters.length) = some 1 := by decide +kernel
theorem ky_EM_committed : y_EM_committed.cls = Rn_EM ∧ y_EM_committed.cls ≠ "java/lang/invoke/MethodHandle" ∧ y_EM_committed.cls ≠ "java/lang/invoke/VarHandle" ∧ (parseMethodDescriptor y_EM_committed.desc).map (fun d => d.parameters.length) = some 1 := by decide +kernel
theorem ky_EM_isClient : y_EM_isClient.cls = Rn_EM ∧ y_EM_isClient.cls ≠ "java/lang/invoke/MethodHandle" ∧ y_EM_isClient.cls ≠ "java/lang/invoke/VarHandle" ∧ (parseMethodDescriptor y_EM_isClient.desc).map (fun d => d.parameters.length) = some 1 := by decide +kernel
theorem ky_EM_isOpen : y_EM_isOpen.cls = Rn_EM ∧ y_EM_isOpen.cls ≠ "java/lang/invoke/MethodHandle" ∧ y_EM_isOpen.cls ≠ "java/lang/invoke/VarHandle" ∧ (parseMethodDescriptor y_EM_isOpen.desc).map (fun d => d.parameters.length) = some 1 := by decide +kernel
theorem ky_EM_coordinatorsUp : y_EM_coordinatorsUp.cls = Rn_EM ∧ y_EM_coordinatorsUp.cls ≠ "java/lang/invoke/MethodHandle" ∧ y_EM_coordinatorsUp.cls ≠ "java/lang/invoke/VarHandle" ∧ (parseMethodDescriptor y_EM_coordinatorsUp.desc).map (fun d => d.parameters.length) = some 0 := by decide +kernel
theorem ky_EM_greatest : y_EM_greatest.cls = Rn_EM ∧ y_EM_greatest.cls ≠ "java/lang/invoke/MethodHandle" ∧ y_EM_greatest.cls ≠ "java/lang/invoke/VarHandle" ∧ (parseMethodDescriptor y_EM_greatest.desc).map (fun d => d.parameters.length) = some 0 := by decide +kernel
theorem ky_EM_find : y_EM_find.cls = Rn_EM ∧ y_EM_find.cls ≠ "java/lang/invoke/MethodHandle" ∧ y_EM_find.cls ≠ "java/lang/invoke/VarHandle" ∧ (parseMethodDescriptor y_EM_find.desc).map (fun d => d.parameters.length) = some 1 := by decide +kernel
theorem ky_EM_begin : y_EM_begin.cls = Rn_EM ∧ y_EM_begin.cls ≠ "java/lang/invoke/MethodHandle" ∧ y_EM_begin.cls ≠ "java/lang/invoke/VarHandle" ∧ (parseMethodDescriptor y_EM_begin.desc).map (fun d => d.parameters.length) = some 1 := by decide +kernel
theorem ky_EM_reading : y_EM_reading.cls = Rn_EM ∧ y_EM_reading.cls ≠ "java/lang/invoke/MethodHandle" ∧ y_EM_reading.cls ≠ "java/lang/invoke/VarHandle" ∧ (parseMethodDescriptor y_EM_reading.desc).map (fun d => d.parameters.length) = some 2 := by decide +kernel
theorem ky_EM_wrote : y_EM_wrote.cls = Rn_EM ∧ y_EM_wrote.cls ≠ "java/lang/invoke/MethodHandle" ∧ y_EM_wrote.cls ≠ "java/lang/invoke/VarHandle" ∧ (parseMethodDescriptor y_EM_wrote.desc).map (fun d => d.parameters.length) = some 2 := by decide +kernel
theorem ky_EM_read : y_EM_read.cls = Rn_EM ∧ y_EM_read.cls ≠ "java/lang/invoke/MethodHandle" ∧ y_EM_read.cls ≠ "java/lang/invoke/VarHandle" ∧ (parseMethodDescriptor y_EM_read.desc).map (fun d => d.parameters.length) = some 2 := by decide +kernel
theorem ky_EM_range : y_EM_range.cls = Rn_EM ∧ y_EM_range.cls ≠ "java/lang/invoke/MethodHandle" ∧ y_EM_range.cls ≠ "java/lang/invoke/VarHandle" ∧ (parseMethodDescriptor y_EM_range.desc).map (fun d => d.parameters.length) = some 3 := by decide +kernel
theorem ky_EM_write : y_EM_write.cls = Rn_EM ∧ y_EM_write.cls ≠ "java/lang/invoke/MethodHandle" ∧ y_EM_write.cls ≠ "java/lang/invoke/VarHandle" ∧ (parseMethodDescriptor y_EM_write.desc).map (fun d => d.parameters.length) = some 3 := by decide +kernel
theorem ky_EM_commit : y_EM_commit.cls = Rn_EM ∧ y_EM_commit.cls ≠ "java/lang/invoke/MethodHandle" ∧ y_EM_commit.cls ≠ "java/lang/invoke/VarHandle" ∧ (parseMethodDescriptor y_EM_commit.desc).map (fun d => d.parameters.length) = some 1 := by decide +kernel
theorem ky_EM_giveUp : y_EM_giveUp.cls = Rn_EM ∧ y_EM_giveUp.cls ≠ "java/lang/invoke/MethodHandle" ∧ y_EM_giveUp.cls ≠ "java/lang/invoke/VarHandle" ∧ (parseMethodDescriptor y_EM_giveUp.desc).map (fun d => d.parameters.length) = some 1 := by decide +kernel
theorem ky_EM_status : y_EM_status.cls = Rn_EM ∧ y_EM_status.cls ≠ "java/lang/invoke/MethodHandle" ∧ y_EM_status.cls ≠ "java/lang/invoke/VarHandle" ∧ (parseMethodDescriptor y_EM_status.desc).map (fun d => d.parameters.length) = some 1 := by decide +kernel
theorem ky_EM_join : y_EM_join.cls = Rn_EM ∧ y_EM_join.cls ≠ "java/lang/invoke/MethodHandle" ∧ y_EM_join.cls ≠ "java/lang/invoke/VarHandle" ∧ (parseMethodDescriptor y_EM_join.desc).map (fun d => d.parameters.length) = some 2 := by decide +kernel
theorem ky_EM_keep : y_EM_keep.cls = Rn_EM ∧ y_EM_keep.cls ≠ "java/lang/invoke/MethodHandle" ∧ y_EM_keep.cls ≠ "java/lang/invoke/VarHandle" ∧ (parseMethodDescriptor y_EM_keep.desc).map (fun d => d.parameters.length) = some 2 := by decide +kernel
theorem ky_EM_pull : y_EM_pull.cls = Rn_EM ∧ y_EM_pull.cls ≠ "java/lang/invoke/MethodHandle" ∧ y_EM_pull.cls ≠ "java/lang/invoke/VarHandle" ∧ (parseMethodDescriptor y_EM_pull.desc).map (fun d => d.parameters.length) = some 2 := by decide +kernel
theorem ky_EM_copyLog : y_EM_copyLog.cls = Rn_EM ∧ y_EM_copyLog.cls ≠ "java/lang/invoke/MethodHandle" ∧ y_EM_copyLog.cls ≠ "java/lang/invoke/VarHandle" ∧ (parseMethodDescriptor y_EM_copyLog.desc).map (fun d => d.parameters.length) = some 2 := by decide +kernel
theorem ky_EM_recover : y_EM_recover.cls = Rn_EM ∧ y_EM_recover.cls ≠ "java/lang/invoke/MethodHandle" ∧ y_EM_recover.cls ≠ "java/lang/invoke/VarHandle" ∧ (parseMethodDescriptor y_EM_recover.desc).map (fun d => d.parameters.length) = some 1 := by decide +kernel
theorem ky_EM_turned : y_EM_turned.cls = Rn_EM ∧ y_EM_turned.cls ≠ "java/lang/invoke/MethodHandle" ∧ y_EM_turned.cls ≠ "java/lang/invoke/VarHandle" ∧ (parseMethodDescriptor y_EM_turned.desc).map (fun d => d.parameters.length) = some 3 := by decide +kernel
theorem ky_EM_stop : y_EM_stop.cls = Rn_EM ∧ y_EM_stop.cls ≠ "java/lang/invoke/MethodHandle" ∧ y_EM_stop.cls ≠ "java/lang/invoke/VarHandle" ∧ (parseMethodDescriptor y_EM_stop.desc).map (fun d => d.parameters.length) = some 2 := by decide +kernel
theorem ky_EM_start : y_EM_start.cls = Rn_EM ∧ y_EM_start.cls ≠ "java/lang/invoke/MethodHandle" ∧ y_EM_start.cls ≠ "java/lang/invoke/VarHandle" ∧ (parseMethodDescriptor y_EM_start.desc).map (fun d => d.parameters.length) = some 2 := by decide +kernel
theorem ky_EM_log : y_EM_log.cls = Rn_EM ∧ y_EM_log.cls ≠ "java/lang/invoke/MethodHandle" ∧ y_EM_log.cls ≠ "java/lang/invoke/VarHandle" ∧ (parseMethodDescriptor y_EM_log.desc).map (fun d => d.parameters.length) = some 1 := by decide +kernel
theorem ky_EM_storage : y_EM_storage.cls = Rn_EM ∧ y_EM_storage.cls ≠ "java/lang/invoke/MethodHandle" ∧ y_EM_storage.cls ≠ "java/lang/invoke/VarHandle" ∧ (parseMethodDescriptor y_EM_storage.desc).map (fun d => d.parameters.length) = some 1 := by decide +kernel
theorem ky_EM_coordinator : y_EM_coordinator.cls = Rn_EM ∧ y_EM_coordinator.cls ≠ "java/lang/invoke/MethodHandle" ∧ y_EM_coordinator.cls ≠ "java/lang/invoke/VarHandle" ∧ (parseMethodDescriptor y_EM_coordinator.desc).map (fun d => d.parameters.length) = some 1 := by decide +kernel
end
section
/-! the world of this claim: objects by class and field, arrays by address, the reference's arrays by their fields -/
abbrev xk : Type := (Nat → Nat) × (Nat → Nat) × (Nat → Nat → Nat → Int32) × (Nat → Nat → Nat → Option Nat) × (Nat → Nat → Int32) × (Nat → Nat → Option Nat) × Nat
abbrev xm : Type := Nat → Nat → Int32
abbrev xe : Type := va_G × (Nat → ClassId) × Nat × (Nat → Nat) × Nat × Bool
def xk_kd (K : xk) : Nat → Nat := K.1
def xk_ln (K : xk) : Nat → Nat := K.2.1
def xk_iv (K : xk) : Nat → Nat → Nat → Int32 := K.2.2.1
def xk_rv (K : xk) : Nat → Nat → Nat → Option Nat := K.2.2.2.1
def xk_ai (K : xk) : Nat → Nat → Int32 := K.2.2.2.2.1
def xk_ar (K : xk) : Nat → Nat → Option Nat := K.2.2.2.2.2.1
def xk_nx (K : xk) : Nat := K.2.2.2.2.2.2
def xe_D (E : xe) : va_G := E.1
def xe_tc (E : xe) : Nat → ClassId := E.2.1
def xe_om (E : xe) : Nat := E.2.2.1
def xe_ad (E : xe) : Nat → Nat := E.2.2.2.1
def xe_bs (E : xe) : Nat := E.2.2.2.2.1
def xe_g (E : xe) : Bool := E.2.2.2.2.2
abbrev xe_A (E : xe) : Nat → Prop := fun q => xe_bs E ≤ q
-- what a store, a new object, a new array makes of it
def xk_sI (K : xk) (ci k a : Nat) (v : Int32) : xk := (K.1, K.2.1, fun c j b => if b = a ∧ c = ci ∧ j = k then v else K.2.2.1 c j b, K.2.2.2)
def xk_sR (K : xk) (ci k a : Nat) (v : Option Nat) : xk := (K.1, K.2.1, K.2.2.1, fun c j b => if b = a ∧ c = ci ∧ j = k then v else K.2.2.2.1 c j b, K.2.2.2.2)
def xk_tI (K : xk) (a i : Nat) (v : Int32) : xk := (K.1, K.2.1, K.2.2.1, K.2.2.2.1, fun b j => if b = a ∧ j = i then v else K.2.2.2.2.1 b j, K.2.2.2.2.2)
def xk_tR (K : xk) (a i : Nat) (v : Option Nat) : xk := (K.1, K.2.1, K.2.2.1, K.2.2.2.1, K.2.2.2.2.1, fun b j => if b = a ∧ j = i then v else K.2.2.2.2.2.1 b j, K.2.2.2.2.2.2)
def xk_new (K : xk) (n len : Nat) : xk :=
  (fun b => if b = xk_nx K then n else K.1 b, fun b => if b = xk_nx K then len else K.2.1 b, fun c j b => if b = xk_nx K then 0 else K.2.2.1 c j b, fun c j b => if b = xk_nx K then none else K.2.2.2.1 c j b,
    fun b j => if b = xk_nx K then 0 else K.2.2.2.2.1 b j, fun b j => if b = xk_nx K then none else K.2.2.2.2.2.1 b j, xk_nx K + 1)
def xm_s (M : xm) (k i : Nat) (v : Int32) : xm := fun c j => if c = k ∧ j = i then v else M c j
-- the steps: none where the machine would not go on
def xI (K : xk) (ci k a : Nat) : Option Int32 := if xk_kd K a = ci + 1 then some (xk_iv K ci k a) else none
def xR (K : xk) (ci k a : Nat) : Option (Option Nat) := if xk_kd K a = ci + 1 then some (xk_rv K ci k a) else none
def xIs (K : xk) (ci k a : Nat) (v : Int32) : Option xk := if xk_kd K a = ci + 1 then some (xk_sI K ci k a v) else none
def xZs (K : xk) (ci k a : Nat) (v : Int32) : Option xk := if xk_kd K a = ci + 1 ∧ (v = 0 ∨ v = 1) then some (xk_sI K ci k a v) else none
def xRs (K : xk) (ci k a : Nat) (v : Option Nat) : Option xk := if xk_kd K a = ci + 1 then some (xk_sR K ci k a v) else none
def xIa (K : xk) (t a : Nat) (i : Int32) : Option Int32 := if xk_kd K a = 100 + t ∧ ¬ (i < 0 ∨ xk_ln K a ≤ i.toNatClampNeg) then some (xk_ai K a i.toNatClampNeg) else none
def xRa (K : xk) (t a : Nat) (i : Int32) : Option (Option Nat) := if xk_kd K a = 100 + t ∧ ¬ (i < 0 ∨ xk_ln K a ≤ i.toNatClampNeg) then some (xk_ar K a i.toNatClampNeg) else none
def xIt (K : xk) (t a : Nat) (i v : Int32) : Option xk := if xk_kd K a = 100 + t ∧ ¬ (i < 0 ∨ xk_ln K a ≤ i.toNatClampNeg) then some (xk_tI K a i.toNatClampNeg v) else none
def xZt (K : xk) (t a : Nat) (i v : Int32) : Option xk := if (xk_kd K a = 100 + t ∧ ¬ (i < 0 ∨ xk_ln K a ≤ i.toNatClampNeg)) ∧ (v = 0 ∨ v = 1) then some (xk_tI K a i.toNatClampNeg v) else none
def xRt (K : xk) (t ci a : Nat) (i : Int32) (v : Option Nat) : Option xk := if xk_kd K a = 100 + t ∧ ¬ (i < 0 ∨ xk_ln K a ≤ i.toNatClampNeg) ∧ v.elim (ci + 1) (xk_kd K) = ci + 1 then some (xk_tR K a i.toNatClampNeg v) else none
def xZ (v : Int32) : Option Int32 := if v = 0 ∨ v = 1 then some v else none
def xMi (M : xm) (k : Nat) (i : Int32) : Option Int32 := if i < 0 ∨ xm_n k ≤ i.toNatClampNeg then none else some (M k i.toNatClampNeg)
def xMt (M : xm) (k : Nat) (i v : Int32) : Option xm := if i < 0 ∨ xm_n k ≤ i.toNatClampNeg then none else some (xm_s M k i.toNatClampNeg v)
def xMz (M : xm) (k : Nat) (i v : Int32) : Option xm := if (i < 0 ∨ xm_n k ≤ i.toNatClampNeg) ∨ ¬ (v = 0 ∨ v = 1) then none else some (xm_s M k i.toNatClampNeg v)
def xMl (M : xm) (v : Int32) : Option xm := some (xm_s M xm_l 0 v)
def xNw (K : xk) (n len : Nat) : Option (Nat × xk) := some (xk_nx K, xk_new K n len)
def xO (K : xk) (ci a : Nat) : Option Unit := if xk_kd K a = ci + 1 then some () else none
def xp {α β γ : Type} (x : Option (α × β)) (f : α → β → Option γ) : Option γ := x.bind (fun z => f z.1 z.2)
theorem xb {α β : Type} {x : Option α} {f : α → Option β} {b : β} (h : x.bind f = some b) : ∃ a, x = some a ∧ f a = some b := by
  cases x with
  | none => cases h
  | some a => exact ⟨a, rfl, h⟩
theorem xpb {α β γ : Type} {x : Option (α × β)} {f : α → β → Option γ} {b : γ} (h : xp x f = some b) : ∃ a c, x = some (a, c) ∧ f a c = some b := by
  cases x with
  | none => cases h
  | some a => exact ⟨a.1, a.2, rfl, h⟩
theorem xOk {K : xk} {ci a : Nat} {u : Unit} (h : xO K ci a = some u) : xk_kd K a = ci + 1 := by
  unfold xO at h
  split at h
  · assumption
  · cases h
def xx_tys (E : xe) : List (ClassId × FieldType) := [(xe_tc E 0, .int), (xe_tc E 1, .boolean), (xe_tc E 2, .object Rn_Coordinator), (xe_tc E 3, .object Rn_Log), (xe_tc E 4, .object Rn_Storage), (xe_tc E 5, .object Rn_Client), (xe_tc E 6, .object Rn_Master), (xe_tc E 7, .object Rn_Message), (xe_tc E 8, .object Rn_Entry), (xe_tc E 9, .object Rn_Question), (xe_tc E 10, .object Rn_OnWay)]
-- the cells of the world
def xk_fs (K : xk) (ci a : Nat) : List Value := (List.range (xx_n ci)).map (fun k => if xx_r ci k = true then va_rf (xk_rv K ci k a) else .int (xk_iv K ci k a))
def xm_fs (E : xe) (M : xm) : List Value := (List.range xm_N).map (fun k => if k = xm_l then .int (M xm_l 0) else va_rf (some (xe_ad E k)))
def xk_X (E : xe) (K : xk) (M : xm) (a : Nat) : Option va_E :=
  if xk_kd K a = 0 then none else if xk_kd K a < 100 then some (.inr (xk_kd K a - 1, xk_fs K (xk_kd K a - 1) a))
  else if xk_kd K a < 150 then some (.inl (xe_tc E (xk_kd K a - 100), xk_ln K a, if xx_a (xk_kd K a - 100) = true then .inr (.inr (.inr (.inr (xk_ar K a)))) else .inl (xk_ai K a)))
  else if xk_kd K a = 150 then some (.inr (xm_c, xm_fs E M))
  else if xk_kd K a < 200 then none
  else some (.inl (xe_tc E (xm_t (xk_kd K a - 200)), xm_n (xk_kd K a - 200), .inl (M (xk_kd K a - 200))))
/-- the heap is as the world says; the reference's cells are where the world has them -/
def xk_W (E : xe) (K : xk) (M : xm) (H : Heap) : Prop :=
  H.size = xk_nx K ∧ xe_bs E ≤ xk_nx K ∧ (∀ (a : Nat) (e : va_E), xk_X E K M a = some e → xe_bs E ≤ a ∧ va_at (xe_D E) classes (a, e) H) ∧
  (∀ a k : Nat, xk_kd K a = 200 + k → a = xe_ad E k ∧ k ≠ xm_l) ∧ (∀ a : Nat, xk_kd K a = 150 → a = xe_om E) ∧ (xe_g E = true → xk_kd K (xe_om E) = 150 ∧ ∀ k, k < xm_N → k ≠ xm_l → xk_kd K (xe_ad E k) = 200 + k)
/-- the links to private constructors of nest mates -/
def xx_N (U : State) : Prop := (∀ q ∈ xw_q, va_Nw (.methodLinkNest q.1 q.2.1 q.2.2.1 q.2.2.2) U) ∧ ∀ Cn ∈ xw_o, va_AO Cn U
theorem xx_N.warm {s U : State} (h : xx_N s) (hW : s.WarmedH U.vm) : xx_N U := ⟨fun q hq => va_Nw.warmM hW (h.1 q hq), fun Cn hC => va_AO.moved hW.alike (h.2 Cn hC)⟩
theorem xx_N.same {s U : State} (h : xx_N s) (hv : s.vm = U.vm) : xx_N U := ⟨fun q hq => va_Nw.same rfl hv (h.1 q hq), fun Cn hC => va_AO.moved (by rw [hv]; exact Vm.Alike.refl _) (h.2 Cn hC)⟩
abbrev xx_B (E : xe) (K : xk) (M : xm) (U : State) : Prop := xk_W E K M U.heap ∧ va_K (xe_D E) classes (xx_tys E) U ∧ xx_N U
abbrev xx_C (p : Program) (m : MethodId) (c : Code) (cc : ByteArray) (nL : Nat) (s : State) (args : Array Value) (own : String) (E : xe) : Prop := CallFix p m c cc nL s args w_all own ∧ va_K (xe_D E) classes (xx_tys E) s ∧ xx_N s
abbrev xx_S (E : xe) (K : xk) (M : xm) (s : State) (H : Heap) (locs : List Loc) : Prop := xk_W E K M H ∧ va_S (xe_A E) s.heap H locs
/-- what is known of the class number ci: its name, fields, number of fields, types -/
abbrev xc_ok (ci : Nat) (Cn : String) (T : u_T) (N : Nat) (ty : Nat → FieldType) : Prop :=
  classes[ci]? = some (Cn, T, N) ∧ (∀ w ∈ u_ws Cn T N, w ∈ w_all) ∧ (∀ k, k < N → parseFieldDescriptor (T k).2.2.1 = some (ty k)) ∧ (∀ a, a < N → ∀ b, b < N → a ≠ b → (T a).2.1 ≠ (T b).2.1) ∧ (∀ k, k < N → (T k).1 = Cn)
theorem xk_Xo {E : xe} {K : xk} {M : xm} {a ci : Nat} (h : xk_kd K a = ci + 1) (hc : ci < 99) : xk_X E K M a = some (.inr (ci, xk_fs K ci a)) := by
  unfold xk_X
  rw [h, if_neg (by omega), if_pos (by omega)]
  rfl
theorem xk_Xa {E : xe} {K : xk} {M : xm} {a t : Nat} (h : xk_kd K a = 100 + t) (hc : t < 50) : xk_X E K M a = some (.inl (xe_tc E t, xk_ln K a, if xx_a t = true then .inr (.inr (.inr (.inr (xk_ar K a)))) else .inl (xk_ai K a))) := by
  unfold xk_X
  rw [h, if_neg (by omega), if_neg (by omega), if_pos (by omega), Nat.add_sub_cancel_left]
theorem xk_Xm {E : xe} {K : xk} {M : xm} {a k : Nat} (h : xk_kd K a = 200 + k) : xk_X E K M a = some (.inl (xe_tc E (xm_t k), xm_n k, .inl (M k))) := by
  unfold xk_X
  rw [h, if_neg (by omega), if_neg (by omega), if_neg (by omega), if_neg (by omega), if_neg (by omega), Nat.add_sub_cancel_left]
theorem xk_Xw {E : xe} {K : xk} {M : xm} {a : Nat} (h : xk_kd K a = 150) : xk_X E K M a = some (.inr (xm_c, xm_fs E M)) := by
  unfold xk_X
  rw [h, if_neg (by omega), if_neg (by omega), if_neg (by omega), if_pos rfl]
theorem xk_one {D : va_G} {a : Nat} {e : va_E} {H : Heap} (h : va_at D classes (a, e) H) : va_P D classes [(a, e)] H := by
  intro k q hk
  have hz : k < 1 := (List.getElem?_eq_some_iff.mp hk).1
  rw [show k = 0 by omega] at hk
  cases hk
  exact h
/-- one cell is written -/
theorem xk_W.st {E : xe} {K K' : xk} {M M' : xm} {H H1 : Heap} {a : Nat} {e' : va_E} (h : xk_W E K M H) (hX : ∀ b, b ≠ a → xk_X E K' M' b = xk_X E K M b) (hXa : xk_X E K' M' a = some e') (hk : xk_kd K' = xk_kd K) (hn : xk_nx K' = xk_nx K) (hb : xe_bs E ≤ a)
    (z : H1.size = H.size) (oq : ∀ q : Nat, q ≠ a → H1[q]? = H[q]?) (hat : va_at (xe_D E) classes (a, e') H1) : xk_W E K' M' H1 := by
  obtain ⟨h1, h2, h3, h4, h5, h6⟩ := h
  refine ⟨by rw [z, h1, hn], by rw [hn]; exact h2, fun b e he => ?_, by rw [hk]; exact h4, by rw [hk]; exact h5, by rw [hk]; exact h6⟩
  by_cases hba : b = a
  · subst hba
    rw [hXa] at he
    cases he
    exact ⟨hb, hat⟩
  · rw [hX b hba] at he
    obtain ⟨g1, g2⟩ := h3 b e he
    exact ⟨g1, g2.kept (oq b hba)⟩
theorem xk_W.lt {E : xe} {K : xk} {M : xm} {H : Heap} (h : xk_W E K M H) {a : Nat} {e : va_E} (he : xk_X E K M a = some e) : a < xk_nx K := by
  have := (h.2.2.1 a e he).2.lt
  rw [h.1] at this
  exact this
/-- one cell is new -/
theorem xk_W.nw {E : xe} {K : xk} {M : xm} {H H1 : Heap} {n len : Nat} {e' : va_E} (h : xk_W E K M H) (hn : n < 150) (hXa : xk_X E (xk_new K n len) M (xk_nx K) = some e') (z : H1.size = H.size + 1) (oq : ∀ q : Nat, q < H.size → H1[q]? = H[q]?) (hat : va_at (xe_D E) classes (xk_nx K, e') H1) : xk_W E (xk_new K n len) M H1 := by
  have hl := fun {a : Nat} {e : va_E} (he : xk_X E K M a = some e) => h.lt he
  obtain ⟨h1, h2, h3, h4, h5, h6⟩ := h
  have hk : ∀ b, b ≠ xk_nx K → xk_kd (xk_new K n len) b = xk_kd K b := fun b hb => by show (if b = xk_nx K then n else K.1 b) = _; rw [if_neg hb]; rfl
  have hs : xk_kd (xk_new K n len) (xk_nx K) = n := by show (if _ then n else _) = _; rw [if_pos rfl]
  have hX : ∀ b, b ≠ xk_nx K → xk_X E (xk_new K n len) M b = xk_X E K M b := fun b hb => by
    unfold xk_X
    rw [hk b hb]
    have e1 : ∀ ci, xk_fs (xk_new K n len) ci b = xk_fs K ci b := fun ci => by simp [xk_fs, xk_new, xk_rv, xk_iv, hb]
    have e2 : xk_ln (xk_new K n len) b = xk_ln K b := by simp [xk_new, xk_ln, hb]
    have e3 : xk_ai (xk_new K n len) b = xk_ai K b := by funext j; simp [xk_new, xk_ai, hb]
    have e4 : xk_ar (xk_new K n len) b = xk_ar K b := by funext j; simp [xk_new, xk_ar, hb]
    rw [e1, e2, e3, e4]
  refine ⟨by rw [z, h1]; rfl, Nat.le_trans h2 (Nat.le_succ _), fun b e he => ?_, fun a k ha => ?_, fun a ha => ?_, fun hg => ⟨?_, fun k hk1 hk2 => ?_⟩⟩
  · by_cases hb : b = xk_nx K
    · subst hb
      rw [hXa] at he
      cases he
      exact ⟨h2, hat⟩
    · rw [hX b hb] at he
      obtain ⟨g1, g2⟩ := h3 b e he
      exact ⟨g1, g2.kept (oq b g2.lt)⟩
  · by_cases hb : a = xk_nx K
    · subst hb; rw [hs] at ha; omega
    · rw [hk a hb] at ha; exact h4 a k ha
  · by_cases hb : a = xk_nx K
    · subst hb; rw [hs] at ha; omega
    · rw [hk a hb] at ha; exact h5 a ha
  · have := (h6 hg).1
    rw [hk _ (fun z => Nat.lt_irrefl _ (z ▸ hl (xk_Xw this)))]
    exact this
  · have := (h6 hg).2 k hk1 hk2
    rw [hk _ (fun z => Nat.lt_irrefl _ (z ▸ hl (xk_Xm this)))]
    exact this
-- a store's cells
theorem xk_fsI {K : xk} {ci k a : Nat} {v : Int32} (hr : xx_r ci k = false) : xk_fs (xk_sI K ci k a v) ci a = (xk_fs K ci a).set k (.int v) := by
  apply List.ext_getElem?
  intro j
  unfold xk_fs
  rw [List.getElem?_set, List.getElem?_map, List.getElem?_map]
  by_cases hj : k = j
  · subst hj
    by_cases hl : k < xx_n ci
    · simp [hl, hr, xk_sI, xk_iv]
    · simp [hl]
  · rw [if_neg hj]
    by_cases hl : j < xx_n ci
    · simp [hl, xk_sI, xk_iv, xk_rv, Ne.symm hj]
    · simp [hl]
theorem xk_fsR {K : xk} {ci k a : Nat} {v : Option Nat} (hr : xx_r ci k = true) : xk_fs (xk_sR K ci k a v) ci a = (xk_fs K ci a).set k (va_rf v) := by
  apply List.ext_getElem?
  intro j
  unfold xk_fs
  rw [List.getElem?_set, List.getElem?_map, List.getElem?_map]
  by_cases hj : k = j
  · subst hj
    by_cases hl : k < xx_n ci
    · simp [hl, hr, xk_sR, xk_rv]
    · simp [hl]
  · rw [if_neg hj]
    by_cases hl : j < xx_n ci
    · simp [hl, xk_sR, xk_iv, xk_rv, Ne.symm hj]
    · simp [hl]
theorem xk_XneI {E : xe} {K : xk} {M : xm} {ci k a : Nat} {v : Int32} : ∀ b, b ≠ a → xk_X E (xk_sI K ci k a v) M b = xk_X E K M b := fun b hb => by
  have e1 : ∀ ci', xk_fs (xk_sI K ci k a v) ci' b = xk_fs K ci' b := fun ci' => by simp [xk_fs, xk_sI, xk_rv, xk_iv, hb]
  unfold xk_X
  simp only [e1]
  rfl
theorem xk_XneR {E : xe} {K : xk} {M : xm} {ci k a : Nat} {v : Option Nat} : ∀ b, b ≠ a → xk_X E (xk_sR K ci k a v) M b = xk_X E K M b := fun b hb => by
  have e1 : ∀ ci', xk_fs (xk_sR K ci k a v) ci' b = xk_fs K ci' b := fun ci' => by simp [xk_fs, xk_sR, xk_rv, xk_iv, hb]
  unfold xk_X
  simp only [e1]
  rfl
theorem xk_XneTI {E : xe} {K : xk} {M : xm} {i a : Nat} {v : Int32} : ∀ b, b ≠ a → xk_X E (xk_tI K a i v) M b = xk_X E K M b := fun b hb => by
  have e1 : xk_ai (xk_tI K a i v) b = xk_ai K b := by funext j; simp [xk_tI, xk_ai, hb]
  unfold xk_X
  simp only [e1]
  rfl
theorem xk_XneTR {E : xe} {K : xk} {M : xm} {i a : Nat} {v : Option Nat} : ∀ b, b ≠ a → xk_X E (xk_tR K a i v) M b = xk_X E K M b := fun b hb => by
  have e1 : xk_ar (xk_tR K a i v) b = xk_ar K b := by funext j; simp [xk_tR, xk_ar, hb]
  unfold xk_X
  simp only [e1]
  rfl
theorem xc_ES : xc_ok 0 Rn_ES Tn_ES 6 tn_ES := ⟨rfl, xl_ES, xt_ES, xn_ES, xd_ES⟩
theorem xc_Coordinator : xc_ok 1 Rn_Coordinator Tn_Coordinator 2 tn_Coordinator := ⟨rfl, xl_Coordinator, xt_Coordinator, xn_Coordinator, xd_Coordinator⟩
theorem xc_Writes : xc_ok 2 Rn_Writes Tn_Writes 2 tn_Writes := ⟨rfl, xl_Writes, xt_Writes, xn_Writes, xd_Writes⟩
theorem xc_Entry : xc_ok 3 Rn_Entry Tn_Entry 3 tn_Entry := ⟨rfl, xl_Entry, xt_Entry, xn_Entry, xd_Entry⟩
theorem xc_Message : xc_ok 4 Rn_Message Tn_Message 10 tn_Message := ⟨rfl, xl_Message, xt_Message, xn_Message, xd_Message⟩
theorem xc_Line : xc_ok 5 Rn_Line Tn_Line 3 tn_Line := ⟨rfl, xl_Line, xt_Line, xn_Line, xd_Line⟩
theorem xc_Question : xc_ok 6 Rn_Question Tn_Question 4 tn_Question := ⟨rfl, xl_Question, xt_Question, xn_Question, xd_Question⟩
theorem xc_OnWay : xc_ok 7 Rn_OnWay Tn_OnWay 4 tn_OnWay := ⟨rfl, xl_OnWay, xt_OnWay, xn_OnWay, xd_OnWay⟩
theorem xc_Master : xc_ok 8 Rn_Master Tn_Master 12 tn_Master := ⟨rfl, xl_Master, xt_Master, xn_Master, xd_Master⟩
theorem xc_Log : xc_ok 9 Rn_Log Tn_Log 7 tn_Log := ⟨rfl, xl_Log, xt_Log, xn_Log, xd_Log⟩
theorem xc_Storage : xc_ok 10 Rn_Storage Tn_Storage 6 tn_Storage := ⟨rfl, xl_Storage, xt_Storage, xn_Storage, xd_Storage⟩
theorem xc_Client : xc_ok 11 Rn_Client Tn_Client 9 tn_Client := ⟨rfl, xl_Client, xt_Client, xn_Client, xd_Client⟩
theorem xc_EM : xc_ok 12 Rn_EM Tn_EM 56 tn_EM := ⟨rfl, xl_EM, xt_EM, xn_EM, xd_EM⟩
end
section
section XR
variable {p : Program} {l : Launch} {e : Env} {R : Room} {s : State} {m : MethodId} {args : Array Value} {below : List Frame} {meth : Method} {c : Code} {H : Heap} {locs : List Loc} {cells slots : Nat} {Q : State → Prop}
variable {cc : ByteArray} {pc nL : Nat} {ls : Array Slot} {rest : List Value} {own : String} {E : xe} {K : xk} {M : xm} {a : Nat}
theorem xr_gi (C : xx_C p m c cc nL s args own E) (X : xx_S E K M s H locs) {ci N : Nat} {Cn : String} {T : u_T} {ty : Nat → FieldType} (hc : xc_ok ci Cn T N ty) (h99 : ci < 99) (k : Nat) (hk : k < N) (hn : k < xx_n ci) (hr : xx_r ci k = false) {index : Nat} (hl : Cond.fieldLink own index Cn (T k).2.1 (T k).2.2.1 ∈ w_all) (hdg : decode cc pc = .ok (.getfield index, 3))
    {v : Int32} (hv : xI K ci k a = some v) (kk : W p l e R s m args below meth c H locs cells slots Q (F0 m (pc + 3) ls (.int v :: rest))) : W p l e R s m args below meth c H locs cells slots Q (F0 m pc ls (.ref a :: rest)) := by
  unfold xI at hv
  split at hv
  · rename_i hkd
    cases hv
    obtain ⟨h1, h2⟩ := X.1.2.2.1 a _ (xk_Xo hkd h99)
    exact va_get C.1.1 C.1.2.1 C.1.2.2.2.2 hc.2.1 C.1.2.2.2.1 C.2.1 (xk_one h2) 0 rfl hc.1 k hk (C.1.2.2.2.2 _ hl) (fun x h => by rw [hc.2.2.2.2 k hk] at h; exact h) (v := .int (xk_iv K ci k a)) (by simp [xk_fs, hn, hr]) hdg kk
  · cases hv
theorem xr_gr (C : xx_C p m c cc nL s args own E) (X : xx_S E K M s H locs) {ci N : Nat} {Cn : String} {T : u_T} {ty : Nat → FieldType} (hc : xc_ok ci Cn T N ty) (h99 : ci < 99) (k : Nat) (hk : k < N) (hn : k < xx_n ci) (hr : xx_r ci k = true) {index : Nat} (hl : Cond.fieldLink own index Cn (T k).2.1 (T k).2.2.1 ∈ w_all) (hdg : decode cc pc = .ok (.getfield index, 3))
    {v : Option Nat} (hv : xR K ci k a = some v) (kk : W p l e R s m args below meth c H locs cells slots Q (F0 m (pc + 3) ls (va_rf v :: rest))) : W p l e R s m args below meth c H locs cells slots Q (F0 m pc ls (.ref a :: rest)) := by
  unfold xR at hv
  split at hv
  · rename_i hkd
    cases hv
    obtain ⟨h1, h2⟩ := X.1.2.2.1 a _ (xk_Xo hkd h99)
    exact va_get C.1.1 C.1.2.1 C.1.2.2.2.2 hc.2.1 C.1.2.2.2.1 C.2.1 (xk_one h2) 0 rfl hc.1 k hk (C.1.2.2.2.2 _ hl) (fun x h => by rw [hc.2.2.2.2 k hk] at h; exact h) (v := va_rf (xk_rv K ci k a)) (by simp [xk_fs, hn, hr]) hdg kk
  · cases hv
/-- a field is written that isn't final -/
theorem xr_put0 (C : xx_C p m c cc nL s args own E) (X : xx_S E K M s H locs) {K' : xk} {M' : xm} {ci N : Nat} {Cn : String} {T : u_T} {ty : Nat → FieldType} (hc : xc_ok ci Cn T N ty) {fs : List Value} (hX0 : xk_X E K M a = some (.inr (ci, fs))) (k : Nat) (hk : k < N) (hlen : k < fs.length) (hfin : (T k).2.2.2 = false) {index : Nat} (hl : Cond.fieldLink own index Cn (T k).2.1 (T k).2.2.1 ∈ w_all) (hdg : decode cc pc = .ok (.putfield index, 3))
    {v : Value} (hn : narrow (ty k) v = v) (hfit : fits (ty k) v = true) (hX : ∀ b, b ≠ a → xk_X E K' M' b = xk_X E K M b) (hXa : xk_X E K' M' a = some (.inr (ci, fs.set k v))) (hkd : xk_kd K' = xk_kd K) (hnx : xk_nx K' = xk_nx K)
    (kk : ∀ (H1 : Heap) (locs1 : List Loc), xx_S E K' M' s H1 locs1 → W p l e R s m args below meth c H1 locs1 cells slots Q (F0 m (pc + 3) ls rest)) : W p l e R s m args below meth c H locs cells slots Q (F0 m pc ls (v :: .ref a :: rest)) := by
  obtain ⟨hbs, r, h1, cell, q1, q2, q3, q4⟩ := X.1.2.2.1 a _ hX0
  have hap := va_apart (own := own) C.1.2.2.2.2 hc.2.1 ty hc.2.2.1 hc.2.2.2.1 C.2.1 hc.1
  have hr : r = (Cn, T, N) := Option.some.inj (h1.symm.trans hc.1)
  subst hr
  obtain ⟨hS, hfc, kC, hkC, hkind⟩ := C.2.1.1 ci _ hc.1
  obtain ⟨cf, kf, fi, f, hi, hsl⟩ := hS k hk
  have hlay := C.1.2.2.2.2 _ (hc.2.1 _ (u_in_lay hk))
  unfold u_lay at hlay
  rw [if_neg (by rw [hfin]; decide)] at hlay
  have hst := (u_facts hfc hkC (u_lays C.1.2.2.2.2 hc.2.1 hk) hi).1
  have h6 := u_store hfc hkC hkind hlay hi (hc.2.2.1 k hk) hn hfit
  refine W.putK C.1.1 C.1.2.1 (f := f) ⟨C.1.2.2.2.1, C.1.2.2.2.2 _ hl, ⟨_, _, _, by have h9 := hi; rw [hc.2.2.2.2 k hk] at h9; exact h9⟩, hst⟩ (by rw [q2]; exact h6) q1 q3 (by rw [hsl]; exact k2_hasslot (q4 k hk)) rfl rfl hdg fun H' e1 e2 e3 => ?_
  rw [hsl] at e1 ⊢
  exact kk H' _ ⟨X.1.st hX hXa hkd hnx hbs e2 e3 ⟨_, hc.1, t_OB.to (V := updV (vp_V fs) k v) ⟨_, e1, q2, q3, t_set q4 hap hk v⟩ (fun j _ => vp_updV_set hlen v j)⟩, X.2.put e2 e3 hbs⟩
/-- a final field is written by its constructor -/
theorem xr_put1 (C : xx_C p m c cc nL s args own E) (X : xx_S E K M s H locs) {K' : xk} {M' : xm} {ci N : Nat} {Cn : String} {T : u_T} {ty : Nat → FieldType} (hc : xc_ok ci Cn T N ty) {fs : List Value} (hX0 : xk_X E K M a = some (.inr (ci, fs))) (k : Nat) (hk : k < N) (hlen : k < fs.length) (hfin : (T k).2.2.2 = true) (hin2 : meth.name = "<init>") (hcn : Cn = own) {index : Nat} (hl : Cond.fieldLink own index Cn (T k).2.1 (T k).2.2.1 ∈ w_all) (hdg : decode cc pc = .ok (.putfield index, 3))
    {v : Value} (hn : narrow (ty k) v = v) (hfit : fits (ty k) v = true) (hX : ∀ b, b ≠ a → xk_X E K' M' b = xk_X E K M b) (hXa : xk_X E K' M' a = some (.inr (ci, fs.set k v))) (hkd : xk_kd K' = xk_kd K) (hnx : xk_nx K' = xk_nx K)
    (kk : ∀ (H1 : Heap) (locs1 : List Loc), xx_S E K' M' s H1 locs1 → W p l e R s m args below meth c H1 locs1 cells slots Q (F0 m (pc + 3) ls rest)) : W p l e R s m args below meth c H locs cells slots Q (F0 m pc ls (v :: .ref a :: rest)) := by
  obtain ⟨hbs, r, h1, cell, q1, q2, q3, q4⟩ := X.1.2.2.1 a _ hX0
  have hap := va_apart (own := own) C.1.2.2.2.2 hc.2.1 ty hc.2.2.1 hc.2.2.2.1 C.2.1 hc.1
  have hr : r = (Cn, T, N) := Option.some.inj (h1.symm.trans hc.1)
  subst hr
  obtain ⟨hS, hfc, kC, hkC, hkind⟩ := C.2.1.1 ci _ hc.1
  obtain ⟨cf, kf, fi, f, hi, hsl⟩ := hS k hk
  have hlay := C.1.2.2.2.2 _ (hc.2.1 _ (u_in_lay hk))
  unfold u_lay at hlay
  rw [if_pos hfin] at hlay
  have hst := (u_facts hfc hkC (u_lays C.1.2.2.2.2 hc.2.1 hk) hi).1
  have hcf : m.cls = cf := by
    obtain ⟨_, _, c', _, _, _, -, -, hf', -, -, -, hown2, -⟩ := Cond.laysFinal_spec hlay
    have e1 : c' = cf := by have := hi.symm.trans hf'; simp at this; exact this.1.symm
    rw [hc.2.2.2.2 k hk, hcn] at hown2
    rw [← e1]; exact Option.some.inj (C.1.2.2.2.1.symm.trans hown2)
  have h6 := u_fits hfc hkC hkind (Or.inr hlay) hi (hc.2.2.1 k hk) hn hfit
  refine W.putFinK C.1.1 C.1.2.1 C.1.2.2.2.1 (C.1.2.2.2.2 _ hl) (by have h9 := hi; rw [hc.2.2.2.2 k hk] at h9; exact h9) hst hcf hin2 (by rw [q2]; exact h6) q1 q3 (by rw [hsl]; exact k2_hasslot (q4 k hk)) rfl rfl hdg fun H' e1 e2 e3 => ?_
  rw [hsl] at e1 ⊢
  exact kk H' _ ⟨X.1.st hX hXa hkd hnx hbs e2 e3 ⟨_, hc.1, t_OB.to (V := updV (vp_V fs) k v) ⟨_, e1, q2, q3, t_set q4 hap hk v⟩ (fun j _ => vp_updV_set hlen v j)⟩, X.2.put e2 e3 hbs⟩
theorem xk_fslen {K : xk} {ci a : Nat} : (xk_fs K ci a).length = xx_n ci := by simp [xk_fs]
theorem xr_pi (C : xx_C p m c cc nL s args own E) (X : xx_S E K M s H locs) {ci N : Nat} {Cn : String} {T : u_T} {ty : Nat → FieldType} (hc : xc_ok ci Cn T N ty) (h99 : ci < 99) (k : Nat) (hk : k < N) (hn : k < xx_n ci) (hr : xx_r ci k = false) (hty : ty k = .int) (hfin : (T k).2.2.2 = false) {index : Nat} (hl : Cond.fieldLink own index Cn (T k).2.1 (T k).2.2.1 ∈ w_all) (hdg : decode cc pc = .ok (.putfield index, 3))
    {v : Int32} {K' : xk} (hv : xIs K ci k a v = some K') (kk : ∀ (H1 : Heap) (locs1 : List Loc), xx_S E K' M s H1 locs1 → W p l e R s m args below meth c H1 locs1 cells slots Q (F0 m (pc + 3) ls rest)) : W p l e R s m args below meth c H locs cells slots Q (F0 m pc ls (.int v :: .ref a :: rest)) := by
  unfold xIs at hv
  split at hv
  · rename_i hkd
    cases hv
    exact xr_put0 C X hc (xk_Xo hkd h99) k hk (by rw [xk_fslen]; exact hn) hfin hl hdg (by rw [hty]; rfl) (by rw [hty]; rfl) xk_XneI (by rw [← xk_fsI hr]; exact xk_Xo (by exact hkd) h99) rfl rfl kk
  · cases hv
theorem xr_pz (C : xx_C p m c cc nL s args own E) (X : xx_S E K M s H locs) {ci N : Nat} {Cn : String} {T : u_T} {ty : Nat → FieldType} (hc : xc_ok ci Cn T N ty) (h99 : ci < 99) (k : Nat) (hk : k < N) (hn : k < xx_n ci) (hr : xx_r ci k = false) (hty : ty k = .boolean) (hfin : (T k).2.2.2 = false) {index : Nat} (hl : Cond.fieldLink own index Cn (T k).2.1 (T k).2.2.1 ∈ w_all) (hdg : decode cc pc = .ok (.putfield index, 3))
    {v : Int32} {K' : xk} (hv : xZs K ci k a v = some K') (kk : ∀ (H1 : Heap) (locs1 : List Loc), xx_S E K' M s H1 locs1 → W p l e R s m args below meth c H1 locs1 cells slots Q (F0 m (pc + 3) ls rest)) : W p l e R s m args below meth c H locs cells slots Q (F0 m pc ls (.int v :: .ref a :: rest)) := by
  unfold xZs at hv
  split at hv
  · rename_i hkd
    cases hv
    have hz : narrow .boolean (.int v) = .int v ∧ fits .boolean (.int v) = true := by rcases hkd.2 with rfl | rfl <;> decide
    exact xr_put0 C X hc (xk_Xo hkd.1 h99) k hk (by rw [xk_fslen]; exact hn) hfin hl hdg (by rw [hty]; exact hz.1) (by rw [hty]; exact hz.2) xk_XneI (by rw [← xk_fsI hr]; exact xk_Xo (by exact hkd.1) h99) rfl rfl kk
  · cases hv
theorem xr_nref {v : Option Nat} {t : FieldType} (ht : (∃ n, t = .object n) ∨ ∃ u, t = .array u) : narrow t (va_rf v) = va_rf v ∧ fits t (va_rf v) = true := by
  rcases ht with ⟨n, rfl⟩ | ⟨u, rfl⟩ <;> cases v <;> exact ⟨rfl, rfl⟩
theorem xr_pr (C : xx_C p m c cc nL s args own E) (X : xx_S E K M s H locs) {ci N : Nat} {Cn : String} {T : u_T} {ty : Nat → FieldType} (hc : xc_ok ci Cn T N ty) (h99 : ci < 99) (k : Nat) (hk : k < N) (hn : k < xx_n ci) (hr : xx_r ci k = true) (hty : (∃ n, ty k = .object n) ∨ ∃ u, ty k = .array u) (hfin : (T k).2.2.2 = false) {index : Nat} (hl : Cond.fieldLink own index Cn (T k).2.1 (T k).2.2.1 ∈ w_all) (hdg : decode cc pc = .ok (.putfield index, 3))
    {v : Option Nat} {K' : xk} (hv : xRs K ci k a v = some K') (kk : ∀ (H1 : Heap) (locs1 : List Loc), xx_S E K' M s H1 locs1 → W p l e R s m args below meth c H1 locs1 cells slots Q (F0 m (pc + 3) ls rest)) : W p l e R s m args below meth c H locs cells slots Q (F0 m pc ls (va_rf v :: .ref a :: rest)) := by
  unfold xRs at hv
  split at hv
  · rename_i hkd
    cases hv
    exact xr_put0 C X hc (xk_Xo hkd h99) k hk (by rw [xk_fslen]; exact hn) hfin hl hdg (xr_nref hty).1 (xr_nref hty).2 xk_XneR (by rw [← xk_fsR hr]; exact xk_Xo (by exact hkd) h99) rfl rfl kk
  · cases hv
theorem xr_piF (C : xx_C p m c cc nL s args own E) (X : xx_S E K M s H locs) {ci N : Nat} {Cn : String} {T : u_T} {ty : Nat → FieldType} (hc : xc_ok ci Cn T N ty) (h99 : ci < 99) (k : Nat) (hk : k < N) (hn : k < xx_n ci) (hr : xx_r ci k = false) (hty : ty k = .int) (hfin : (T k).2.2.2 = true) (hin2 : meth.name = "<init>") (hcn : Cn = own) {index : Nat} (hl : Cond.fieldLink own index Cn (T k).2.1 (T k).2.2.1 ∈ w_all) (hdg : decode cc pc = .ok (.putfield index, 3))
    {v : Int32} {K' : xk} (hv : xIs K ci k a v = some K') (kk : ∀ (H1 : Heap) (locs1 : List Loc), xx_S E K' M s H1 locs1 → W p l e R s m args below meth c H1 locs1 cells slots Q (F0 m (pc + 3) ls rest)) : W p l e R s m args below meth c H locs cells slots Q (F0 m pc ls (.int v :: .ref a :: rest)) := by
  unfold xIs at hv
  split at hv
  · rename_i hkd
    cases hv
    exact xr_put1 C X hc (xk_Xo hkd h99) k hk (by rw [xk_fslen]; exact hn) hfin hin2 hcn hl hdg (by rw [hty]; rfl) (by rw [hty]; rfl) xk_XneI (by rw [← xk_fsI hr]; exact xk_Xo (by exact hkd) h99) rfl rfl kk
  · cases hv
theorem xr_prF (C : xx_C p m c cc nL s args own E) (X : xx_S E K M s H locs) {ci N : Nat} {Cn : String} {T : u_T} {ty : Nat → FieldType} (hc : xc_ok ci Cn T N ty) (h99 : ci < 99) (k : Nat) (hk : k < N) (hn : k < xx_n ci) (hr : xx_r ci k = true) (hty : (∃ n, ty k = .object n) ∨ ∃ u, ty k = .array u) (hfin : (T k).2.2.2 = true) (hin2 : meth.name = "<init>") (hcn : Cn = own) {index : Nat} (hl : Cond.fieldLink own index Cn (T k).2.1 (T k).2.2.1 ∈ w_all) (hdg : decode cc pc = .ok (.putfield index, 3))
    {v : Option Nat} {K' : xk} (hv : xRs K ci k a v = some K') (kk : ∀ (H1 : Heap) (locs1 : List Loc), xx_S E K' M s H1 locs1 → W p l e R s m args below meth c H1 locs1 cells slots Q (F0 m (pc + 3) ls rest)) : W p l e R s m args below meth c H locs cells slots Q (F0 m pc ls (va_rf v :: .ref a :: rest)) := by
  unfold xRs at hv
  split at hv
  · rename_i hkd
    cases hv
    exact xr_put1 C X hc (xk_Xo hkd h99) k hk (by rw [xk_fslen]; exact hn) hfin hin2 hcn hl hdg (xr_nref hty).1 (xr_nref hty).2 xk_XneR (by rw [← xk_fsR hr]; exact xk_Xo (by exact hkd) h99) rfl rfl kk
  · cases hv
-- arrays
theorem xr_iald (C : xx_C p m c cc nL s args own E) (X : xx_S E K M s H locs) (t : Nat) (ht5 : t < 50) (hta : xx_a t = false) (htt : (xx_tys E)[t]? = some (xe_tc E t, .int)) (hdg : decode cc pc = .ok (.iaload, 1)) {i v : Int32} (hv : xIa K t a i = some v)
    (kk : W p l e R s m args below meth c H locs cells slots Q (F0 m (pc + 1) ls (.int v :: rest))) : W p l e R s m args below meth c H locs cells slots Q (F0 m pc ls (.int i :: .ref a :: rest)) := by
  unfold xIa at hv
  split at hv
  · rename_i hkd
    cases hv
    have hX := xk_Xa (E := E) (M := M) hkd.1 ht5
    rw [hta, if_neg (by decide)] at hX
    exact va_iald C.1.1 C.1.2.1 C.2.1 (xk_one (X.1.2.2.1 a _ hX).2) 0 t rfl htt hkd.2 hdg kk
  · cases hv
theorem xr_aald (C : xx_C p m c cc nL s args own E) (X : xx_S E K M s H locs) (t : Nat) {Cn : String} (ht5 : t < 50) (hta : xx_a t = true) (htt : (xx_tys E)[t]? = some (xe_tc E t, .object Cn)) (hdg : decode cc pc = .ok (.aaload, 1)) {i : Int32} {v : Option Nat} (hv : xRa K t a i = some v)
    (kk : W p l e R s m args below meth c H locs cells slots Q (F0 m (pc + 1) ls (va_rf v :: rest))) : W p l e R s m args below meth c H locs cells slots Q (F0 m pc ls (.int i :: .ref a :: rest)) := by
  unfold xRa at hv
  split at hv
  · rename_i hkd
    cases hv
    have hX := xk_Xa (E := E) (M := M) hkd.1 ht5
    rw [hta, if_pos rfl] at hX
    exact va_aldq C.1.1 C.1.2.1 C.2.1 (xk_one (X.1.2.2.1 a _ hX).2) 0 t rfl htt hkd.2 hdg kk
  · cases hv
theorem xr_iast (C : xx_C p m c cc nL s args own E) (X : xx_S E K M s H locs) (t : Nat) (ht5 : t < 50) (hta : xx_a t = false) (htt : (xx_tys E)[t]? = some (xe_tc E t, .int)) (hdg : decode cc pc = .ok (.iastore, 1)) {i v : Int32} {K' : xk} (hv : xIt K t a i v = some K')
    (kk : ∀ (H1 : Heap) (locs1 : List Loc), xx_S E K' M s H1 locs1 → W p l e R s m args below meth c H1 locs1 cells slots Q (F0 m (pc + 1) ls rest)) : W p l e R s m args below meth c H locs cells slots Q (F0 m pc ls (.int v :: .int i :: .ref a :: rest)) := by
  unfold xIt at hv
  split at hv
  · rename_i hkd
    cases hv
    have hX := xk_Xa (E := E) (M := M) hkd.1 ht5
    rw [hta, if_neg (by decide)] at hX
    have hX' : xk_X E (xk_tI K a i.toNatClampNeg v) M a = _ := xk_Xa (by exact hkd.1) ht5
    rw [hta, if_neg (by decide)] at hX'
    obtain ⟨hbs, hat⟩ := X.1.2.2.1 a _ hX
    refine W.iast C.1.1 C.1.2.1 hat ((C.2.1.2 t _ htt).1 _ (fun j => .int (xk_ai K a j))) (fun q => by cases q) (by show ¬ (i < 0 ∨ (arrV _ _ _).slots.size ≤ _); rw [arrV_size]; exact hkd.2) rfl rfl hdg fun H1 e1 z oq => ?_
    refine kk H1 _ ⟨X.1.st xk_XneTI hX' rfl rfl hbs z oq ?_, X.2.put z oq hbs⟩
    show H1[a]? = some (vp_cell _ _)
    rw [e1, vp_cell_i, vp_cell_i, arrV_store]
    congr 2
    funext q
    by_cases hq : q = i.toNatClampNeg
    · subst hq
      simp [updV, xk_tI, xk_ai]
    · simp [updV, xk_tI, xk_ai, hq]
  · cases hv
theorem xr_bast (C : xx_C p m c cc nL s args own E) (X : xx_S E K M s H locs) (t : Nat) (ht5 : t < 50) (hta : xx_a t = false) (htt : (xx_tys E)[t]? = some (xe_tc E t, .boolean)) (hdg : decode cc pc = .ok (.bastore, 1)) {i v : Int32} {K' : xk} (hv : xZt K t a i v = some K')
    (kk : ∀ (H1 : Heap) (locs1 : List Loc), xx_S E K' M s H1 locs1 → W p l e R s m args below meth c H1 locs1 cells slots Q (F0 m (pc + 1) ls rest)) : W p l e R s m args below meth c H locs cells slots Q (F0 m pc ls (.int v :: .int i :: .ref a :: rest)) := by
  unfold xZt at hv
  split at hv
  · rename_i hkd
    cases hv
    have hX := xk_Xa (E := E) (M := M) hkd.1.1 ht5
    rw [hta, if_neg (by decide)] at hX
    have hX' : xk_X E (xk_tI K a i.toNatClampNeg v) M a = _ := xk_Xa (by exact hkd.1.1) ht5
    rw [hta, if_neg (by decide)] at hX'
    have hz : narrow .boolean (.int v) = .int v := by rcases hkd.2 with rfl | rfl <;> decide
    obtain ⟨hbs, hat⟩ := X.1.2.2.1 a _ hX
    refine W.zast C.1.1 C.1.2.1 hat ((C.2.1.2 t _ htt).1 _ (fun j => .int (xk_ai K a j))) (fun q => by cases q) (by show ¬ (i < 0 ∨ (arrV _ _ _).slots.size ≤ _); rw [arrV_size]; exact hkd.1.2) rfl rfl hdg fun H1 e1 z oq => ?_
    refine kk H1 _ ⟨X.1.st xk_XneTI hX' rfl rfl hbs z oq ?_, X.2.put z oq hbs⟩
    show H1[a]? = some (vp_cell _ _)
    rw [e1, hz, vp_cell_i, vp_cell_i, arrV_store]
    congr 2
    funext q
    by_cases hq : q = i.toNatClampNeg
    · subst hq
      simp [updV, xk_tI, xk_ai]
    · simp [updV, xk_tI, xk_ai, hq]
  · cases hv
theorem xr_aast (C : xx_C p m c cc nL s args own E) (X : xx_S E K M s H locs) (t ci : Nat) {r : vw_C} (ht5 : t < 50) (h99 : ci < 99) (hta : xx_a t = true) (hcl : classes[ci]? = some r) (htt : (xx_tys E)[t]? = some (xe_tc E t, .object r.1)) (hdg : decode cc pc = .ok (.aastore, 1)) {i : Int32} {v : Option Nat} {K' : xk} (hv : xRt K t ci a i v = some K')
    (kk : ∀ (H1 : Heap) (locs1 : List Loc), xx_S E K' M s H1 locs1 → W p l e R s m args below meth c H1 locs1 cells slots Q (F0 m (pc + 1) ls rest)) : W p l e R s m args below meth c H locs cells slots Q (F0 m pc ls (va_rf v :: .int i :: .ref a :: rest)) := by
  unfold xRt at hv
  split at hv
  · rename_i hkd
    cases hv
    have hlt : i.toNatClampNeg < xk_ln K a := Nat.not_le.mp fun q => hkd.2.1 (Or.inr q)
    have h0 : ¬ i < 0 := fun q => hkd.2.1 (Or.inl q)
    have hX := xk_Xa (E := E) (M := M) hkd.1 ht5
    rw [hta, if_pos rfl] at hX
    have hX' : xk_X E (xk_tR K a i.toNatClampNeg v) M a = _ := xk_Xa (by exact hkd.1) ht5
    rw [hta, if_pos rfl] at hX'
    obtain ⟨hbs, hat⟩ := X.1.2.2.1 a _ hX
    have hA := C.2.1.2 t _ htt
    cases v with
    | none =>
      refine va_WaastN (C := r.1) C.1.1 C.1.2.1 hat (hA.1 _ (fun j => va_rf (xk_ar K a j))) (fun h => by cases h) (by show ¬ (i < 0 ∨ (arrV _ _ _).slots.size ≤ _); rw [arrV_size]; exact hkd.2.1) rfl rfl hdg fun H1 e1 z oq => ?_
      refine kk H1 _ ⟨X.1.st xk_XneTR hX' rfl rfl hbs z oq ?_, X.2.put z oq hbs⟩
      show H1[a]? = some (vp_cell _ _)
      rw [e1, vp_cell_q, vp_cell_q, arrV_store]
      congr 2
      funext q
      by_cases hq : q = i.toNatClampNeg
      · subst hq
        simp [updV, xk_tR, xk_ar, va_rf]
      · simp [updV, xk_tR, xk_ar, hq]
    | some y =>
      obtain ⟨hby, r', hr', cellV, g1, g2, g3, -⟩ := X.1.2.2.1 y _ (xk_Xo (show xk_kd K y = ci + 1 from hkd.2.2) h99)
      have hcls := (C.2.1.1 ci r hcl).2
      obtain ⟨kA, comp, k1, k2, k3, -⟩ := hA.2
      have hcomp : comp = (xe_D E).1 ci := Option.some.inj (k3.symm.trans hcls.1)
      subst hcomp
      obtain ⟨kC, hkC, -⟩ := hcls.2
      refine W.aast C.1.1 C.1.2.1 hat (fun q h => by cases h) (fun h => by cases h) k1 k2 rfl hkC ⟨h0, by show _ < (arrV _ _ _).slots.size; rw [arrV_size]; exact hlt⟩ g1 (fun q h => by rw [g3] at h; cases h) (by rw [g2]; exact hkC) (by rw [g2]; exact va_assign hcls) rfl rfl hdg fun H1 e1 z oq => ?_
      refine kk H1 _ ⟨X.1.st xk_XneTR hX' rfl rfl hbs z oq ?_, X.2.put z oq hbs⟩
      show H1[a]? = some (vp_cell _ _)
      rw [e1, vp_cell_q, vp_cell_q, arrV_store]
      congr 2
      funext q
      by_cases hq : q = i.toNatClampNeg
      · subst hq
        simp [updV, xk_tR, xk_ar, va_rf]
      · simp [updV, xk_tR, xk_ar, hq]
  · cases hv
end XR
end
section
section XN
variable {p : Program} {l : Launch} {e : Env} {R : Room} {s : State} {m : MethodId} {args : Array Value} {below : List Frame} {meth : Method} {c : Code} {H : Heap} {locs : List Loc} {cells slots : Nat} {Q : State → Prop}
variable {cc : ByteArray} {pc nL : Nat} {ls : Array Slot} {rest : List Value} {own : String} {E : xe} {K : xk} {M : xm} {a : Nat}
theorem xk_newkd {K : xk} {n len : Nat} : xk_kd (xk_new K n len) (xk_nx K) = n := by show (if _ then n else _) = _; rw [if_pos rfl]
theorem xr_new (C : xx_C p m c cc nL s args own E) (X : xx_S E K M s H locs) {ci N : Nat} {Cn : String} {T : u_T} {ty : Nat → FieldType} (hc : xc_ok ci Cn T N ty) (h99 : ci < 99) (hN : xx_n ci = N) (hdef : ∀ j, j < N → defaultValue (ty j) = if xx_r ci j = true then .null else .int 0) {index : Nat} (hcl : Cond.classLink own index Cn ∈ w_all) (hins : Cond.instantiable Cn N ∈ w_all) (hini : Cond.initialized Cn ∈ w_all) (hdg : decode cc pc = .ok (.new index, 3)) (hcells : cells + 1 ≤ R.cells) (hslots : slots + N ≤ R.slots) {q : Nat} {K' : xk} (hv : xNw K (ci + 1) 0 = some (q, K'))
    (kk : ∀ H1 : Heap, xx_S E K' M s H1 locs → W p l e R s m args below meth c H1 locs (cells + 1) (slots + N) Q (F0 m (pc + 3) ls (.ref q :: rest))) : W p l e R s m args below meth c H locs cells slots Q (F0 m pc ls rest) := by
  cases hv
  have hKn := C.2.1.1 ci _ hc.1
  refine W.newcK C.1.1 C.1.2.1 C.1.2.2.2.1 (C.1.2.2.2.2 _ hcl) (C.1.2.2.2.2 _ hins) (C.1.2.2.2.2 _ hini) rfl hdg hcells hslots hKn.2.1 (h := xk_nx K) X.1.1 fun H1 kC hkC e1 z1 o1 => ?_
  have hsz := X.1.1
  refine kk H1 ⟨X.1.nw (by omega) (xk_Xo xk_newkd h99) (by rw [z1, hsz]) (fun q hq => o1 q (by rw [← hsz]; exact hq)) ⟨_, hc.1, (u_born ty C.1.2.2.2.2 hc.2.1 hKn hkC e1 hc.2.2.1).to (fun j hj => ?_)⟩, ⟨Nat.le_trans X.2.1 (by omega), fun x h1 h2 => (o1 x (by rw [← hsz]; exact Nat.lt_of_lt_of_le h1 X.2.1)).trans (X.2.2.1 x h1 h2), X.2.2.2⟩⟩
  rw [hdef j hj]
  subst hN
  by_cases hr : xx_r ci j = true
  · simp [vp_V, xk_fs, hj, hr, xk_new, xk_rv, va_rf]
  · simp [vp_V, xk_fs, hj, hr, xk_new, xk_iv]
theorem xr_newa (C : xx_C p m c cc nL s args own E) (X : xx_S E K M s H locs) (t : Nat) {ty : FieldType} {atype : ArrayType} (hty : newarray.typeOf atype = ty) (ht5 : t < 50) (hta : xx_a t = false) (htt : (xx_tys E)[t]? = some (xe_tc E t, ty)) (hra : va_RA s (xe_tc E t) ty → s.vm.findClass ("[" ++ ty.toString) = some (xe_tc E t)) (harr : Cond.arrayClass ty ∈ w_all) (hd : defaultValue ty = .int 0)
    {n : Int32} {N : Nat} (hn : ¬ n < 0) (hN : n.toNatClampNeg = N) (hbytes : N * componentBytes ty ≤ 536870912) (hdg : decode cc pc = .ok (.newarray atype, 2)) (hcells : cells + 1 ≤ R.cells) (hslots : slots + N ≤ R.slots) {q : Nat} {K' : xk} (hv : xNw K (100 + t) N = some (q, K'))
    (kk : ∀ H1 : Heap, xx_S E K' M s H1 locs → W p l e R s m args below meth c H1 locs (cells + 1) (slots + N) Q (F0 m (pc + 2) ls (.ref q :: rest))) : W p l e R s m args below meth c H locs cells slots Q (F0 m pc ls (.int n :: rest)) := by
  cases hv
  subst hty
  refine va_newaK C.1.1 C.1.2.1 (C.1.2.2.2.2 _ harr) rfl hdg rfl hn hN hbytes hcells hslots (h := xk_nx K) X.1.1 fun H1 cA e1 z1 o1 hAr hNm => ?_
  have hsz := X.1.1
  have hcA : cA = xe_tc E t := Option.some.inj (hNm.symm.trans (hra (C.2.1.2 t _ htt).2))
  subst hcA
  have hX' : xk_X E (xk_new K (100 + t) N) M (xk_nx K) = _ := xk_Xa xk_newkd ht5
  rw [hta, if_neg (by decide)] at hX'
  refine kk H1 ⟨X.1.nw (by omega) hX' (by rw [z1, hsz]) (fun q hq => o1 q (by rw [← hsz]; exact hq)) ?_, ⟨Nat.le_trans X.2.1 (by omega), fun x h1 h2 => (o1 x (by rw [← hsz]; exact Nat.lt_of_lt_of_le h1 X.2.1)).trans (X.2.2.1 x h1 h2), X.2.2.2⟩⟩
  show H1[xk_nx K]? = some (vp_cell _ _)
  rw [e1, vp_cell_i, hd]
  simp [xk_new, xk_ln, xk_ai]
theorem xr_newq (C : xx_C p m c cc nL s args own E) (X : xx_S E K M s H locs) (t : Nat) {Cn : String} (ht5 : t < 50) (hta : xx_a t = true) (htt : (xx_tys E)[t]? = some (xe_tc E t, .object Cn)) {index : Nat} (hcl : Cond.classLink own index Cn ∈ w_all) (hov : Cn ∈ xw_o)
    {n : Int32} {N : Nat} (hn : ¬ n < 0) (hN : n.toNatClampNeg = N) (hbytes : N * 4 ≤ 536870912) (hdg : decode cc pc = .ok (.anewarray index, 3)) (hcells : cells + 1 ≤ R.cells) (hslots : slots + N ≤ R.slots) {q : Nat} {K' : xk} (hv : xNw K (100 + t) N = some (q, K'))
    (kk : ∀ H1 : Heap, xx_S E K' M s H1 locs → W p l e R s m args below meth c H1 locs (cells + 1) (slots + N) Q (F0 m (pc + 3) ls (.ref q :: rest))) : W p l e R s m args below meth c H locs cells slots Q (F0 m pc ls (.int n :: rest)) := by
  cases hv
  subst hN
  have hsz := X.1.1
  refine W.anew C.1.1 C.1.2.1 C.1.2.2.2.1 (C.1.2.2.2.2 _ hcl) (va_AO.use (C.2.2.2 _ hov)) rfl hdg rfl hn hbytes hcells hslots fun cA kA comp f1 f2 f3 f4 => ?_
  generalize hH1 : H.push ({ cls := cA, slots := Array.replicate n.toNatClampNeg .null, vm := .none } : Cell) = H1
  have z1 : H1.size = H.size + 1 := by rw [← hH1, Array.size_push]
  have e1 : H1[H.size]? = some (arrV cA n.toNatClampNeg (fun _ => .null)) := by rw [← hH1, Array.getElem?_push_size, ← arrV_new]
  have o1 : ∀ q : Nat, q < H.size → H1[q]? = H[q]? := fun q hq => by rw [← hH1, Array.getElem?_push, if_neg (Nat.ne_of_lt hq)]
  obtain ⟨kA', comp', -, -, -, k4⟩ := (C.2.1.2 t _ htt).2
  have hcA : cA = xe_tc E t := Option.some.inj (f1.symm.trans k4)
  subst hcA
  have hX' : xk_X E (xk_new K (100 + t) n.toNatClampNeg) M (xk_nx K) = _ := xk_Xa xk_newkd ht5
  rw [hta, if_pos rfl] at hX'
  have key := kk H1 ⟨X.1.nw (by omega) hX' z1 o1 (by
    show H1[xk_nx K]? = some (vp_cell _ _)
    rw [← hsz, e1, vp_cell_q]
    simp [xk_new, xk_ln, xk_ar, va_rf, hsz]), ⟨Nat.le_trans X.2.1 (by omega), fun x h1 h2 => (o1 x (Nat.lt_of_lt_of_le h1 X.2.1)).trans (X.2.2.1 x h1 h2), X.2.2.2⟩⟩
  rw [← hsz] at key
  exact key
-- the reference's object and arrays
theorem xm_fsat {E : xe} {M : xm} {k : Nat} (hk : k < xm_N) : (xm_fs E M)[k]? = some (if k = xm_l then .int (M xm_l 0) else va_rf (some (xe_ad E k))) := by simp [xm_fs, hk]
theorem xr_mga (C : xx_C p m c cc nL s args own E) (X : xx_S E K M s H locs) (hg : xe_g E = true) {N : Nat} {Cn : String} {T : u_T} {ty : Nat → FieldType} (hc : xc_ok xm_c Cn T N ty) (k : Nat) (hk : k < N) (hkN : k < xm_N) (hkl : k ≠ xm_l) {index : Nat} (hl : Cond.fieldLink own index Cn (T k).2.1 (T k).2.2.1 ∈ w_all) (hdg : decode cc pc = .ok (.getfield index, 3))
    (kk : W p l e R s m args below meth c H locs cells slots Q (F0 m (pc + 3) ls (va_rf (some (xe_ad E k)) :: rest))) : W p l e R s m args below meth c H locs cells slots Q (F0 m pc ls (.ref (xe_om E) :: rest)) := by
  obtain ⟨h1, h2⟩ := X.1.2.2.1 (xe_om E) _ (xk_Xw (X.1.2.2.2.2.2 hg).1)
  exact va_get C.1.1 C.1.2.1 C.1.2.2.2.2 hc.2.1 C.1.2.2.2.1 C.2.1 (xk_one h2) 0 rfl hc.1 k hk (C.1.2.2.2.2 _ hl) (fun x h => by rw [hc.2.2.2.2 k hk] at h; exact h) (v := va_rf (some (xe_ad E k))) (by rw [xm_fsat hkN, if_neg hkl]) hdg kk
theorem xr_mgl (C : xx_C p m c cc nL s args own E) (X : xx_S E K M s H locs) (hg : xe_g E = true) {N : Nat} {Cn : String} {T : u_T} {ty : Nat → FieldType} (hc : xc_ok xm_c Cn T N ty) (hk : xm_l < N) (hkN : xm_l < xm_N) {index : Nat} (hl : Cond.fieldLink own index Cn (T xm_l).2.1 (T xm_l).2.2.1 ∈ w_all) (hdg : decode cc pc = .ok (.getfield index, 3))
    (kk : W p l e R s m args below meth c H locs cells slots Q (F0 m (pc + 3) ls (.int (M xm_l 0) :: rest))) : W p l e R s m args below meth c H locs cells slots Q (F0 m pc ls (.ref (xe_om E) :: rest)) := by
  obtain ⟨h1, h2⟩ := X.1.2.2.1 (xe_om E) _ (xk_Xw (X.1.2.2.2.2.2 hg).1)
  exact va_get C.1.1 C.1.2.1 C.1.2.2.2.2 hc.2.1 C.1.2.2.2.1 C.2.1 (xk_one h2) 0 rfl hc.1 xm_l hk (C.1.2.2.2.2 _ hl) (fun x h => by rw [hc.2.2.2.2 xm_l hk] at h; exact h) (v := .int (M xm_l 0)) (by rw [xm_fsat hkN, if_pos rfl]) hdg kk
theorem xk_Xms {E : xe} {K : xk} {M : xm} {k i b : Nat} {v : Int32} (hb : xk_kd K b ≠ 200 + k) (hb2 : xk_kd K b = 150 → k ≠ xm_l) : xk_X E K (xm_s M k i v) b = xk_X E K M b := by
  unfold xk_X
  by_cases h1 : xk_kd K b = 150
  · have e1 : xm_fs E (xm_s M k i v) = xm_fs E M := by
      have := hb2 h1
      simp [xm_fs, xm_s, Ne.symm this]
    rw [e1]
    simp [h1]
  · by_cases h2 : xk_kd K b < 200
    · simp only [h2, if_true, if_neg h1]
    · have e1 : xm_s M k i v (xk_kd K b - 200) = M (xk_kd K b - 200) := by
        funext j
        have : xk_kd K b - 200 ≠ k := by omega
        simp [xm_s, this]
      rw [e1]
      simp [h1]
theorem xr_mpl (C : xx_C p m c cc nL s args own E) (X : xx_S E K M s H locs) (hg : xe_g E = true) {N : Nat} {Cn : String} {T : u_T} {ty : Nat → FieldType} (hc : xc_ok xm_c Cn T N ty) (hk : xm_l < N) (hkN : xm_l < xm_N) (hty : ty xm_l = .int) (hfin : (T xm_l).2.2.2 = false) {index : Nat} (hl : Cond.fieldLink own index Cn (T xm_l).2.1 (T xm_l).2.2.1 ∈ w_all) (hdg : decode cc pc = .ok (.putfield index, 3))
    {v : Int32} {M' : xm} (hv : xMl M v = some M') (kk : ∀ (H1 : Heap) (locs1 : List Loc), xx_S E K M' s H1 locs1 → W p l e R s m args below meth c H1 locs1 cells slots Q (F0 m (pc + 3) ls rest)) : W p l e R s m args below meth c H locs cells slots Q (F0 m pc ls (.int v :: .ref (xe_om E) :: rest)) := by
  cases hv
  have h150 := (X.1.2.2.2.2.2 hg).1
  refine xr_put0 C X hc (xk_Xw h150) xm_l hk (by simp [xm_fs]; exact hkN) hfin hl hdg (by rw [hty]; rfl) (by rw [hty]; rfl) (fun b hb => xk_Xms (fun h => (X.1.2.2.2.1 b _ h).2 rfl) (fun h => absurd (X.1.2.2.2.2.1 b h) hb)) ?_ rfl rfl kk
  rw [xk_Xw h150]
  congr 3
theorem xr_mld (C : xx_C p m c cc nL s args own E) (X : xx_S E K M s H locs) (hg : xe_g E = true) (k : Nat) (hkN : k < xm_N) (hkl : k ≠ xm_l) (htt : (xx_tys E)[xm_t k]? = some (xe_tc E (xm_t k), .int)) (hdg : decode cc pc = .ok (.iaload, 1)) {i v : Int32} (hv : xMi M k i = some v)
    (kk : W p l e R s m args below meth c H locs cells slots Q (F0 m (pc + 1) ls (.int v :: rest))) : W p l e R s m args below meth c H locs cells slots Q (F0 m pc ls (.int i :: .ref (xe_ad E k) :: rest)) := by
  unfold xMi at hv
  split at hv
  · cases hv
  · rename_i hkd
    cases hv
    exact va_iald C.1.1 C.1.2.1 C.2.1 (xk_one (X.1.2.2.1 _ _ (xk_Xm ((X.1.2.2.2.2.2 hg).2 k hkN hkl))).2) 0 (xm_t k) rfl htt hkd hdg kk
theorem xr_mldz (C : xx_C p m c cc nL s args own E) (X : xx_S E K M s H locs) (hg : xe_g E = true) (k : Nat) (hkN : k < xm_N) (hkl : k ≠ xm_l) (htt : (xx_tys E)[xm_t k]? = some (xe_tc E (xm_t k), .boolean)) (hdg : decode cc pc = .ok (.baload, 1)) {i v : Int32} (hv : xMi M k i = some v)
    (kk : W p l e R s m args below meth c H locs cells slots Q (F0 m (pc + 1) ls (.int v :: rest))) : W p l e R s m args below meth c H locs cells slots Q (F0 m pc ls (.int i :: .ref (xe_ad E k) :: rest)) := by
  unfold xMi at hv
  split at hv
  · cases hv
  · rename_i hkd
    cases hv
    exact va_zald C.1.1 C.1.2.1 C.2.1 (xk_one (X.1.2.2.1 _ _ (xk_Xm ((X.1.2.2.2.2.2 hg).2 k hkN hkl))).2) 0 (xm_t k) rfl htt hkd hdg kk
theorem xm_upd {M : xm} {k i : Nat} {v : Int32} : (fun j => Value.int (xm_s M k i v k j)) = updV (fun j => .int (M k j)) i (.int v) := by
  funext j
  by_cases h : j = i
  · subst h; simp [updV, xm_s]
  · simp [updV, xm_s, h]
theorem xr_mst (C : xx_C p m c cc nL s args own E) (X : xx_S E K M s H locs) (hg : xe_g E = true) (k : Nat) (hkN : k < xm_N) (hkl : k ≠ xm_l) (htt : (xx_tys E)[xm_t k]? = some (xe_tc E (xm_t k), .int)) (hdg : decode cc pc = .ok (.iastore, 1)) {i v : Int32} {M' : xm} (hv : xMt M k i v = some M')
    (kk : ∀ (H1 : Heap) (locs1 : List Loc), xx_S E K M' s H1 locs1 → W p l e R s m args below meth c H1 locs1 cells slots Q (F0 m (pc + 1) ls rest)) : W p l e R s m args below meth c H locs cells slots Q (F0 m pc ls (.int v :: .int i :: .ref (xe_ad E k) :: rest)) := by
  unfold xMt at hv
  split at hv
  · cases hv
  · rename_i hkd
    cases hv
    have hkk := (X.1.2.2.2.2.2 hg).2 k hkN hkl
    obtain ⟨hbs, hat⟩ := X.1.2.2.1 _ _ (xk_Xm hkk)
    refine W.iast C.1.1 C.1.2.1 hat ((C.2.1.2 _ _ htt).1 _ (fun j => .int (M k j))) (fun q => by cases q) (by show ¬ (i < 0 ∨ (arrV _ _ _).slots.size ≤ _); rw [arrV_size]; exact hkd) rfl rfl hdg fun H1 e1 z oq => ?_
    refine kk H1 _ ⟨X.1.st (fun b hb => xk_Xms (fun h => hb (X.1.2.2.2.1 b _ h).1) (fun _ => hkl)) (xk_Xm hkk) rfl rfl hbs z oq ?_, X.2.put z oq hbs⟩
    show H1[_]? = some (vp_cell _ _)
    rw [e1, vp_cell_i, vp_cell_i, arrV_store, xm_upd]
theorem xr_mstz (C : xx_C p m c cc nL s args own E) (X : xx_S E K M s H locs) (hg : xe_g E = true) (k : Nat) (hkN : k < xm_N) (hkl : k ≠ xm_l) (htt : (xx_tys E)[xm_t k]? = some (xe_tc E (xm_t k), .boolean)) (hdg : decode cc pc = .ok (.bastore, 1)) {i v : Int32} {M' : xm} (hv : xMz M k i v = some M')
    (kk : ∀ (H1 : Heap) (locs1 : List Loc), xx_S E K M' s H1 locs1 → W p l e R s m args below meth c H1 locs1 cells slots Q (F0 m (pc + 1) ls rest)) : W p l e R s m args below meth c H locs cells slots Q (F0 m pc ls (.int v :: .int i :: .ref (xe_ad E k) :: rest)) := by
  unfold xMz at hv
  split at hv
  · cases hv
  · rename_i hkd
    cases hv
    have hkk := (X.1.2.2.2.2.2 hg).2 k hkN hkl
    have hz : narrow .boolean (.int v) = .int v := by
      have : v = 0 ∨ v = 1 := Classical.not_not.mp fun h => hkd (Or.inr h)
      rcases this with rfl | rfl <;> decide
    obtain ⟨hbs, hat⟩ := X.1.2.2.1 _ _ (xk_Xm hkk)
    refine W.zast C.1.1 C.1.2.1 hat ((C.2.1.2 _ _ htt).1 _ (fun j => .int (M k j))) (fun q => by cases q) (by show ¬ (i < 0 ∨ (arrV _ _ _).slots.size ≤ _); rw [arrV_size]; exact fun h => hkd (Or.inl h)) rfl rfl hdg fun H1 e1 z oq => ?_
    refine kk H1 _ ⟨X.1.st (fun b hb => xk_Xms (fun h => hb (X.1.2.2.2.1 b _ h).1) (fun _ => hkl)) (xk_Xm hkk) rfl rfl hbs z oq ?_, X.2.put z oq hbs⟩
    show H1[_]? = some (vp_cell _ _)
    rw [e1, hz, vp_cell_i, vp_cell_i, arrV_store, xm_upd]
-- references in locals and on the stack
theorem xr_cat (v : Option Nat) : (va_rf v).category = 1 := by cases v <;> rfl
theorem xr_aload_n (hx : p.tables.exec = Jvm.exec) (hb : c.code = cc) {k : Fin 4} {i : Nat} {v : Option Nat} (hdg : decode cc pc = .ok (.aload_n k, 1)) (hi : (k : Nat) = i) (hl : ls[i]? = some (.val (va_rf v))) (kk : W p l e R s m args below meth c H locs cells slots Q (F0 m (pc + 1) ls (va_rf v :: rest))) : W p l e R s m args below meth c H locs cells slots Q (F0 m pc ls rest) := by
  cases v with
  | none => exact lv_aload_nN hx hb hdg hi hl kk
  | some x => exact lv_aload_n hx hb hdg hi hl kk
theorem xr_aload (hx : p.tables.exec = Jvm.exec) (hb : c.code = cc) {i : Nat} {v : Option Nat} (hdg : decode cc pc = .ok (.aload i, 2)) (hl : ls[i]? = some (.val (va_rf v))) (kk : W p l e R s m args below meth c H locs cells slots Q (F0 m (pc + 2) ls (va_rf v :: rest))) : W p l e R s m args below meth c H locs cells slots Q (F0 m pc ls rest) := by
  cases v with
  | none => exact lv_aloadN hx hb hdg hl kk
  | some x => exact lv_aload hx hb hdg hl kk
theorem xr_astore_n (hx : p.tables.exec = Jvm.exec) (hb : c.code = cc) {k : Fin 4} {i nL : Nat} {v : Option Nat} {lv lv' : List (Nat × Value)} (hdg : decode cc pc = .ok (.astore_n k, 1)) (hi : (k : Nat) = i) (h : lv_has ls nL lv) (hn : i < nL) (hl : (i, va_rf v) :: lv.filter (fun q => !(q.1 == i) && !(q.1 + 1 == i && q.2.category == 2)) = lv')
    (kk : ∀ ls' : Array Slot, lv_has ls' nL lv' → W p l e R s m args below meth c H locs cells slots Q (F0 m (pc + 1) ls' rest)) : W p l e R s m args below meth c H locs cells slots Q (F0 m pc ls (va_rf v :: rest)) := by
  cases v with
  | none => exact lv_astore_nN hx hb hdg hi h hn hl kk
  | some x => exact lv_astore_n hx hb hdg hi h hn hl kk
theorem xr_astore (hx : p.tables.exec = Jvm.exec) (hb : c.code = cc) {i nL : Nat} {v : Option Nat} {lv lv' : List (Nat × Value)} (hdg : decode cc pc = .ok (.astore i, 2)) (h : lv_has ls nL lv) (hn : i < nL) (hl : (i, va_rf v) :: lv.filter (fun q => !(q.1 == i) && !(q.1 + 1 == i && q.2.category == 2)) = lv')
    (kk : ∀ ls' : Array Slot, lv_has ls' nL lv' → W p l e R s m args below meth c H locs cells slots Q (F0 m (pc + 2) ls' rest)) : W p l e R s m args below meth c H locs cells slots Q (F0 m pc ls (va_rf v :: rest)) := by
  cases v with
  | none => exact lv_astoreN hx hb hdg h hn hl kk
  | some x => exact lv_astore hx hb hdg h hn hl kk
theorem xr_ifnull (hx : p.tables.exec = Jvm.exec) (hb : c.code = cc) {v : Option Nat} {off : Int} {tgt : Nat} (hdg : decode cc pc = .ok (.ifnull off, 3)) (ht : (pc : Int) + off = (tgt : Int)) (kt : v = none → W p l e R s m args below meth c H locs cells slots Q (F0 m tgt ls rest)) (kf : ¬ v = none → W p l e R s m args below meth c H locs cells slots Q (F0 m (pc + 3) ls rest)) : W p l e R s m args below meth c H locs cells slots Q (F0 m pc ls (va_rf v :: rest)) := by
  cases v with
  | none => exact lv_ifnullN hx hb hdg ht (kt rfl)
  | some x => exact lv_ifnull hx hb hdg (kf (fun h => by cases h))
theorem xr_ifnonnull (hx : p.tables.exec = Jvm.exec) (hb : c.code = cc) {v : Option Nat} {off : Int} {tgt : Nat} (hdg : decode cc pc = .ok (.ifnonnull off, 3)) (ht : (pc : Int) + off = (tgt : Int)) (kt : ¬ v = none → W p l e R s m args below meth c H locs cells slots Q (F0 m tgt ls rest)) (kf : v = none → W p l e R s m args below meth c H locs cells slots Q (F0 m (pc + 3) ls rest)) : W p l e R s m args below meth c H locs cells slots Q (F0 m pc ls (va_rf v :: rest)) := by
  cases v with
  | none => exact lv_ifnonnullN hx hb hdg (kf rfl)
  | some x => exact lv_ifnonnull hx hb hdg ht (kt (fun h => by cases h))
-- a method's end
abbrev xq_i (E : xe) (K : xk) (M : xm) (r : Int32) : Array Value → State → Outcome → State → Prop := va_Qi (fun x (_ : Unit) => x = r) (fun _ t => xx_B E K M t) (xe_A E)
abbrev xq_l (E : xe) (K : xk) (M : xm) (r : Int64) : Array Value → State → Outcome → State → Prop := va_Ql (fun x (_ : Unit) => x = r) (fun _ t => xx_B E K M t) (xe_A E)
abbrev xq_r (E : xe) (K : xk) (M : xm) (r : Option Nat) : Array Value → State → Outcome → State → Prop := va_Qq (fun x (_ : Unit) => x = r) (fun _ t => xx_B E K M t) (xe_A E)
abbrev xq_v (E : xe) (K : xk) (M : xm) : Array Value → State → Outcome → State → Prop := va_Qv (fun (_ : Unit) => True) (fun _ t => xx_B E K M t) (xe_A E)
theorem xr_iret (C : xx_C p m c cc nL s args own E) (X : xx_S E K M s H locs) (hlk : meth.locks = false) (hr : meth.sig.returnType = some .int) (hdg : decode cc pc = .ok (.ireturn, 1)) {v r : Int32} (hv : v = r) {mc ms : Nat} (h1 : cells ≤ mc) (h2 : slots ≤ ms) : W p l e R s m args below meth c H locs cells slots (MQ below (xq_i E K M r) args s mc ms (xe_A E)) (F0 m pc ls [.int v]) := by
  subst hv
  exact W.widen h1 h2 (W.iret C.1.1 C.1.2.1 hr (fun t ht hW => ⟨⟨v, (), rfl, rfl, by rw [ht]; exact X.1, va_K.moved hW.alike C.2.1, C.2.2.warm hW⟩, X.2.F ht⟩) X.2.2.2 hdg hlk)
theorem xr_zret (C : xx_C p m c cc nL s args own E) (X : xx_S E K M s H locs) (hlk : meth.locks = false) (hr : meth.sig.returnType = some .boolean) (hdg : decode cc pc = .ok (.ireturn, 1)) {v r : Int32} (hz : xZ v = some r) {mc ms : Nat} (h1 : cells ≤ mc) (h2 : slots ≤ ms) : W p l e R s m args below meth c H locs cells slots (MQ below (xq_i E K M r) args s mc ms (xe_A E)) (F0 m pc ls [.int v]) := by
  unfold xZ at hz
  split at hz
  · rename_i h
    cases hz
    exact W.widen h1 h2 (W.zret C.1.1 C.1.2.1 hr (by rcases h with rfl | rfl <;> decide) (fun t ht hW => ⟨⟨v, (), rfl, rfl, by rw [ht]; exact X.1, va_K.moved hW.alike C.2.1, C.2.2.warm hW⟩, X.2.F ht⟩) X.2.2.2 hdg hlk)
  · cases hz
theorem xr_lret (C : xx_C p m c cc nL s args own E) (X : xx_S E K M s H locs) (hlk : meth.locks = false) (hr : meth.sig.returnType = some .long) (hdg : decode cc pc = .ok (.lreturn, 1)) {v r : Int64} (hv : v = r) {mc ms : Nat} (h1 : cells ≤ mc) (h2 : slots ≤ ms) : W p l e R s m args below meth c H locs cells slots (MQ below (xq_l E K M r) args s mc ms (xe_A E)) (F0 m pc ls [.long v]) := by
  subst hv
  exact W.widen h1 h2 (W.lret C.1.1 C.1.2.1 hr (fun t ht hW => ⟨⟨v, (), rfl, rfl, by rw [ht]; exact X.1, va_K.moved hW.alike C.2.1, C.2.2.warm hW⟩, X.2.F ht⟩) X.2.2.2 hdg hlk)
theorem xr_aret (C : xx_C p m c cc nL s args own E) (X : xx_S E K M s H locs) (hlk : meth.locks = false) {n : String} (hr : meth.sig.returnType = some (.object n)) (hdg : decode cc pc = .ok (.areturn, 1)) {v r : Option Nat} (hv : v = r) {mc ms : Nat} (h1 : cells ≤ mc) (h2 : slots ≤ ms) : W p l e R s m args below meth c H locs cells slots (MQ below (xq_r E K M r) args s mc ms (xe_A E)) (F0 m pc ls [va_rf v]) := by
  subst hv
  exact W.widen h1 h2 (W.aret C.1.1 C.1.2.1 hr (Or.inl ⟨n, rfl⟩) (va_rf_or v) (fun t ht hW => ⟨⟨v, (), rfl, rfl, by rw [ht]; exact X.1, va_K.moved hW.alike C.2.1, C.2.2.warm hW⟩, X.2.F ht⟩) X.2.2.2 hdg hlk)
theorem xr_vret (C : xx_C p m c cc nL s args own E) (X : xx_S E K M s H locs) (hlk : meth.locks = false) (hr : meth.sig.returnType = none) (hdg : decode cc pc = .ok (.return_, 1)) {mc ms : Nat} (h1 : cells ≤ mc) (h2 : slots ≤ ms) : W p l e R s m args below meth c H locs cells slots (MQ below (xq_v E K M) args s mc ms (xe_A E)) (F0 m pc ls []) := by
  exact W.widen h1 h2 (W.vret C.1.1 C.1.2.1 hr (fun t ht hW => ⟨⟨(), rfl, trivial, by rw [ht]; exact X.1, va_K.moved hW.alike C.2.1, C.2.2.warm hW⟩, X.2.F ht⟩) X.2.2.2 hdg hlk)
end XN
end
section
section XC
variable {p : Program} {l : Launch} {e : Env} {R : Room} {s : State} {m : MethodId} {args : Array Value} {below : List Frame} {meth : Method} {c : Code} {H : Heap} {locs : List Loc} {cells slots : Nat} {Q : State → Prop}
variable {cc : ByteArray} {pc nL : Nat} {ls : Array Slot} {rest st0 : List Value} {own : String} {E : xe} {K K' : xk} {M M' : xm} {b : Nat}
variable {y : MethodName} {bytes : ByteArray} {maxL mc ms n index : Nat} {ret : Option FieldType} {rm : Room} {Cn host : String} {As : List Value}
theorem xr_bl {av : List Value} : FrameBlind (va_Pc av (fun U => xx_B E K M U)) := fun a U g mk q => by
  obtain ⟨q0, qW, qK, qN⟩ := q
  exact ⟨q0, qW, va_K.moved (u := U) (U := U.calling g mk a) (Vm.Alike.refl U.vm) qK, qN.same rfl⟩
theorem xr_pre {av : List Value} (C : xx_C p m c cc nL s args own E) (X : xx_S E K M s H locs) : ∀ U : State, U.heap = H → s.WarmedH U.vm → va_Pc av (fun U => xx_B E K M U) av.toArray U := fun U hU hW => ⟨rfl, by rw [hU]; exact X.1, va_K.moved hW.alike C.2.1, C.2.2.warm hW⟩
theorem xr_rcv (C : xx_C p m c cc nL s args own E) (X : xx_S E K M s H locs) {ci : Nat} {T : u_T} {N : Nat} {fs : List Value} (hc : classes[ci]? = some (Cn, T, N)) (hX0 : xk_X E K M b = some (.inr (ci, fs))) : ∃ cellB : Cell, H[b]? = some cellB ∧ cellB.vm.isStatics = false ∧ s.vm.findClass Cn = some cellB.cls :=
  va_recv (q0 := 0) C.2.1 (xk_one (X.1.2.2.1 b _ hX0).2) hc rfl
theorem xr_pV {av : List Value} (C : xx_C p m c cc nL s args own E) (X : xx_S E K M s H locs) {ci : Nat} {T : u_T} {N : Nat} {fs : List Value} (hc : classes[ci]? = some (Cn, T, N)) (hX0 : xk_X E K M b = some (.inr (ci, fs))) : PreV s H Cn b (va_Pc (.ref b :: av) (fun U => xx_B E K M U)) av := ⟨xr_bl, xr_rcv C X hc hX0, xr_pre C X⟩
theorem xr_pS {av : List Value} (C : xx_C p m c cc nL s args own E) (X : xx_S E K M s H locs) : PreS s H (va_Pc av (fun U => xx_B E K M U)) av := ⟨xr_bl, xr_pre C X⟩
/-- a call's end, by the kind of its answer -/
theorem xr_ki {r : Int32} {a : Array Value} (hr : va_Run p l e R s m args below meth c H locs cells slots mc ms (F0 m pc ls st0) rest (xq_i E K' M' r a) (xe_A E)) (X : xx_S E K M s H locs) (kk : ∀ (H1 : Heap) (locs1 : List Loc), xx_S E K' M' s H1 locs1 → W p l e R s m args below meth c H1 locs1 (cells + mc) (slots + ms) Q (F0 m (pc + 3) ls (.int r :: rest))) : W p l e R s m args below meth c H locs cells slots Q (F0 m pc ls st0) := by
  refine va_calli hr X.2 (fun _ _ h => h) (fun _ h => h) (fun r' u t H1 locs1 ht hvm hw hB hz hk hS => ?_)
  subst hw
  exact kk H1 locs1 ⟨by rw [← ht]; exact hB.1, hS⟩
theorem xr_kl {r : Int64} {a : Array Value} (hr : va_Run p l e R s m args below meth c H locs cells slots mc ms (F0 m pc ls st0) rest (xq_l E K' M' r a) (xe_A E)) (X : xx_S E K M s H locs) (kk : ∀ (H1 : Heap) (locs1 : List Loc), xx_S E K' M' s H1 locs1 → W p l e R s m args below meth c H1 locs1 (cells + mc) (slots + ms) Q (F0 m (pc + 3) ls (.long r :: rest))) : W p l e R s m args below meth c H locs cells slots Q (F0 m pc ls st0) := by
  refine va_calll hr X.2 (fun _ _ h => h) (fun _ h => h) (fun r' u t H1 locs1 ht hvm hw hB hz hk hS => ?_)
  subst hw
  exact kk H1 locs1 ⟨by rw [← ht]; exact hB.1, hS⟩
theorem xr_kr {r : Option Nat} {a : Array Value} (hr : va_Run p l e R s m args below meth c H locs cells slots mc ms (F0 m pc ls st0) rest (xq_r E K' M' r a) (xe_A E)) (X : xx_S E K M s H locs) (kk : ∀ (H1 : Heap) (locs1 : List Loc), xx_S E K' M' s H1 locs1 → W p l e R s m args below meth c H1 locs1 (cells + mc) (slots + ms) Q (F0 m (pc + 3) ls (va_rf r :: rest))) : W p l e R s m args below meth c H locs cells slots Q (F0 m pc ls st0) := by
  refine va_callq hr X.2 (fun _ _ h => h) (fun _ h => h) (fun r' u t H1 locs1 ht hvm hw hB hz hk hS => ?_)
  subst hw
  exact kk H1 locs1 ⟨by rw [← ht]; exact hB.1, hS⟩
theorem xr_kv {a : Array Value} (hr : va_Run p l e R s m args below meth c H locs cells slots mc ms (F0 m pc ls st0) rest (xq_v E K' M' a) (xe_A E)) (X : xx_S E K M s H locs) (kk : ∀ (H1 : Heap) (locs1 : List Loc), xx_S E K' M' s H1 locs1 → W p l e R s m args below meth c H1 locs1 (cells + mc) (slots + ms) Q (F0 m (pc + 3) ls rest)) : W p l e R s m args below meth c H locs cells slots Q (F0 m pc ls st0) := by
  refine va_callv hr X.2 (fun _ _ h => h) (fun _ h => h) (fun u t H1 locs1 ht hvm hw hB hz hk hS => ?_)
  exact kk H1 locs1 ⟨by rw [← ht]; exact hB.1, hS⟩
/-- the words of a callee are among the caller's: all have the same -/
theorem xw_in {w : Cond} (h : w ∈ w_all) : GoodIn w_all (w :: w_all) := fun v hv => by
  rcases List.mem_cons.mp hv with rfl | hv
  · exact ⟨h, w_good _ h⟩
  · exact ⟨hv, w_good _ hv⟩
theorem xw_V (h1 : Cond.methodLink own index y ∈ w_all) (h2 : Cond.instanceMethod y ∈ w_all) (h3 : Cond.selects Cn y y ∈ w_all) (h4 : Cond.initialized Cn ∈ w_all) (h5 : Cond.code y bytes maxL ret ∈ w_all) : GoodIn w_all (wsV own index Cn y (Cond.code y bytes maxL ret :: w_all)) := fun v hv => by
  have : v ∈ w_all := by
    simp only [wsV, List.cons_append, List.nil_append, List.mem_cons] at hv
    rcases hv with rfl | rfl | rfl | rfl | rfl | hv <;> assumption
  exact ⟨this, w_good _ this⟩
theorem xw_S (h1 : Cond.methodLink own index y ∈ w_all) (h2 : Cond.static y ∈ w_all) (h4 : Cond.initialized own ∈ w_all) (h5 : Cond.code y bytes maxL ret ∈ w_all) : GoodIn w_all (wsS own index y (Cond.code y bytes maxL ret :: w_all)) := fun v hv => by
  have : v ∈ w_all := by
    simp only [wsS, List.cons_append, List.nil_append, List.mem_cons] at hv
    rcases hv with rfl | rfl | rfl | rfl | hv <;> assumption
  exact ⟨this, w_good _ this⟩
/-- a method's contract out of the walk of its body -/
theorem xr_met {av : List Value} {Qc : Array Value → State → Outcome → State → Prop} (hy : plainName y.cls = true) (hav : (lg_sl av).length ≤ maxL)
    (body : ∀ (p : Program) (e : Env) (s : State) (m : MethodId) (below : List Frame) (meth : Method) (c : Code) (ls : Array Slot), xx_C p m c bytes maxL s av.toArray y.cls E → xx_S E K M s s.heap [] → meth.locks = false → meth.sig.returnType = ret → meth.name = y.name → lv_has ls maxL (lv_args 0 av) →
      W p l e rm s m av.toArray below meth c s.heap [] 0 0 (MQ below Qc av.toArray s mc ms (xe_A E)) (F0 m 0 ls [])) : Met l y (Cond.code y bytes maxL ret :: w_all) rm (va_Pc av (fun U => xx_B E K M U)) Qc mc ms (xe_A E) := by
  refine Met.ofW (cc := bytes) (maxL := maxL) (ret := ret) hy rfl ?_
  intro p e s m args below meth c s₁ B hml hv
  obtain ⟨rfl, hW, hK, hN⟩ := hv
  have hl := lv_entry av hav
  rw [lg_entry_eq]
  generalize (lg_sl av ++ List.replicate (maxL - (lg_sl av).length) Slot.unset).toArray = ls at hl ⊢
  exact body p e s m below meth c ls ⟨⟨B.exec, B.bytes, hml, findClass_of_methodNamed B.named, fun w hw => atoms_spec (ws := Cond.code y bytes maxL ret :: w_all) B.pre w (List.mem_cons_of_mem _ hw)⟩, hK, hN⟩ ⟨hW, va_S.rf⟩ B.notSynchronized B.returns (name_of_methodNamed B.named B.method).1 hl
end XC
end
section
-- what each reader sees behind each store
theorem xkd_sI (K : xk) (ci k a : Nat) (v : Int32) : xk_kd (xk_sI K ci k a v) = xk_kd K := rfl
theorem xln_sI (K : xk) (ci k a : Nat) (v : Int32) : xk_ln (xk_sI K ci k a v) = xk_ln K := rfl
theorem xiv_sI (K : xk) (ci k a : Nat) (v : Int32) (c j b : Nat) : xk_iv (xk_sI K ci k a v) c j b = if b = a ∧ c = ci ∧ j = k then v else xk_iv K c j b := rfl
theorem xrv_sI (K : xk) (ci k a : Nat) (v : Int32) : xk_rv (xk_sI K ci k a v) = xk_rv K := rfl
theorem xai_sI (K : xk) (ci k a : Nat) (v : Int32) : xk_ai (xk_sI K ci k a v) = xk_ai K := rfl
theorem xar_sI (K : xk) (ci k a : Nat) (v : Int32) : xk_ar (xk_sI K ci k a v) = xk_ar K := rfl
theorem xnx_sI (K : xk) (ci k a : Nat) (v : Int32) : xk_nx (xk_sI K ci k a v) = xk_nx K := rfl
theorem xkd_sR (K : xk) (ci k a : Nat) (v : Option Nat) : xk_kd (xk_sR K ci k a v) = xk_kd K := rfl
theorem xln_sR (K : xk) (ci k a : Nat) (v : Option Nat) : xk_ln (xk_sR K ci k a v) = xk_ln K := rfl
theorem xiv_sR (K : xk) (ci k a : Nat) (v : Option Nat) : xk_iv (xk_sR K ci k a v) = xk_iv K := rfl
theorem xrv_sR (K : xk) (ci k a : Nat) (v : Option Nat) (c j b : Nat) : xk_rv (xk_sR K ci k a v) c j b = if b = a ∧ c = ci ∧ j = k then v else xk_rv K c j b := rfl
theorem xai_sR (K : xk) (ci k a : Nat) (v : Option Nat) : xk_ai (xk_sR K ci k a v) = xk_ai K := rfl
theorem xar_sR (K : xk) (ci k a : Nat) (v : Option Nat) : xk_ar (xk_sR K ci k a v) = xk_ar K := rfl
theorem xnx_sR (K : xk) (ci k a : Nat) (v : Option Nat) : xk_nx (xk_sR K ci k a v) = xk_nx K := rfl
theorem xkd_tI (K : xk) (a i : Nat) (v : Int32) : xk_kd (xk_tI K a i v) = xk_kd K := rfl
theorem xln_tI (K : xk) (a i : Nat) (v : Int32) : xk_ln (xk_tI K a i v) = xk_ln K := rfl
theorem xiv_tI (K : xk) (a i : Nat) (v : Int32) : xk_iv (xk_tI K a i v) = xk_iv K := rfl
theorem xrv_tI (K : xk) (a i : Nat) (v : Int32) : xk_rv (xk_tI K a i v) = xk_rv K := rfl
theorem xai_tI (K : xk) (a i : Nat) (v : Int32) (b j : Nat) : xk_ai (xk_tI K a i v) b j = if b = a ∧ j = i then v else xk_ai K b j := rfl
theorem xar_tI (K : xk) (a i : Nat) (v : Int32) : xk_ar (xk_tI K a i v) = xk_ar K := rfl
theorem xnx_tI (K : xk) (a i : Nat) (v : Int32) : xk_nx (xk_tI K a i v) = xk_nx K := rfl
theorem xkd_tR (K : xk) (a i : Nat) (v : Option Nat) : xk_kd (xk_tR K a i v) = xk_kd K := rfl
theorem xln_tR (K : xk) (a i : Nat) (v : Option Nat) : xk_ln (xk_tR K a i v) = xk_ln K := rfl
theorem xiv_tR (K : xk) (a i : Nat) (v : Option Nat) : xk_iv (xk_tR K a i v) = xk_iv K := rfl
theorem xrv_tR (K : xk) (a i : Nat) (v : Option Nat) : xk_rv (xk_tR K a i v) = xk_rv K := rfl
theorem xai_tR (K : xk) (a i : Nat) (v : Option Nat) : xk_ai (xk_tR K a i v) = xk_ai K := rfl
theorem xar_tR (K : xk) (a i : Nat) (v : Option Nat) (b j : Nat) : xk_ar (xk_tR K a i v) b j = if b = a ∧ j = i then v else xk_ar K b j := rfl
theorem xnx_tR (K : xk) (a i : Nat) (v : Option Nat) : xk_nx (xk_tR K a i v) = xk_nx K := rfl
theorem xkd_new (K : xk) (n len : Nat) (b : Nat) : xk_kd (xk_new K n len) b = if b = xk_nx K then n else xk_kd K b := rfl
theorem xln_new (K : xk) (n len : Nat) (b : Nat) : xk_ln (xk_new K n len) b = if b = xk_nx K then len else xk_ln K b := rfl
theorem xiv_new (K : xk) (n len : Nat) (c j b : Nat) : xk_iv (xk_new K n len) c j b = if b = xk_nx K then 0 else xk_iv K c j b := rfl
theorem xrv_new (K : xk) (n len : Nat) (c j b : Nat) : xk_rv (xk_new K n len) c j b = if b = xk_nx K then none else xk_rv K c j b := rfl
theorem xai_new (K : xk) (n len : Nat) (b j : Nat) : xk_ai (xk_new K n len) b j = if b = xk_nx K then 0 else xk_ai K b j := rfl
theorem xar_new (K : xk) (n len : Nat) (b j : Nat) : xk_ar (xk_new K n len) b j = if b = xk_nx K then none else xk_ar K b j := rfl
theorem xnx_new (K : xk) (n len : Nat) : xk_nx (xk_new K n len) = xk_nx K + 1 := rfl
end
