section
-- ===== PART A: goes FIRST, ahead of the names: the tables' words, and 'selects' of the private methods out of them =====
/-- a private method of a class that the tables say can be made, by its rows of tables_1 -/
def lw_okq (q : MethodName × Nat) : Prop := (q.1.cls ≠ "java/lang/invoke/MethodHandle" ∧ q.1.cls ≠ "java/lang/invoke/VarHandle") ∧ Cond.instantiable q.1.cls q.2 ∈ tables_1 ∧ Cond.privateMethod q.1 ∈ tables_1 ∧ Cond.instanceMethod q.1 ∈ tables_1
theorem lw_p0 : lw_okq (⟨"FaxFilter$Sender", "sendStart", "(Z)V"⟩, 5) := ⟨⟨by decide +kernel, by decide +kernel⟩, List.mem_of_getElem? (i := 149) (by decide +kernel), List.mem_of_getElem? (i := 275) (by decide +kernel), List.mem_of_getElem? (i := 276) (by decide +kernel)⟩
theorem lw_p1 : lw_okq (⟨"FaxFilter$Sender", "sendMark", "(Z)V"⟩, 5) := ⟨⟨by decide +kernel, by decide +kernel⟩, List.mem_of_getElem? (i := 149) (by decide +kernel), List.mem_of_getElem? (i := 291) (by decide +kernel), List.mem_of_getElem? (i := 292) (by decide +kernel)⟩
theorem lw_p2 : lw_okq (⟨"FaxFilter$Sender", "sendPlain", "(I)V"⟩, 5) := ⟨⟨by decide +kernel, by decide +kernel⟩, List.mem_of_getElem? (i := 149) (by decide +kernel), List.mem_of_getElem? (i := 296) (by decide +kernel), List.mem_of_getElem? (i := 297) (by decide +kernel)⟩
theorem lw_p3 : lw_okq (⟨"FaxFilter$Picture", "wordOf", "(II)J"⟩, 5) := ⟨⟨by decide +kernel, by decide +kernel⟩, List.mem_of_getElem? (i := 64) (by decide +kernel), List.mem_of_getElem? (i := 305) (by decide +kernel), List.mem_of_getElem? (i := 306) (by decide +kernel)⟩
theorem lw_p4 : lw_okq (⟨"FaxFilter$Picture", "indexOf", "(II)I"⟩, 5) := ⟨⟨by decide +kernel, by decide +kernel⟩, List.mem_of_getElem? (i := 64) (by decide +kernel), List.mem_of_getElem? (i := 309) (by decide +kernel), List.mem_of_getElem? (i := 310) (by decide +kernel)⟩
theorem lw_p5 : lw_okq (⟨"FaxFilter$Sender", "sendRun", "(IZ)V"⟩, 5) := ⟨⟨by decide +kernel, by decide +kernel⟩, List.mem_of_getElem? (i := 149) (by decide +kernel), List.mem_of_getElem? (i := 321) (by decide +kernel), List.mem_of_getElem? (i := 322) (by decide +kernel)⟩
theorem lw_p6 : lw_okq (⟨"FaxFilter$Sender", "sendDrawn", "(I)V"⟩, 5) := ⟨⟨by decide +kernel, by decide +kernel⟩, List.mem_of_getElem? (i := 149) (by decide +kernel), List.mem_of_getElem? (i := 336) (by decide +kernel), List.mem_of_getElem? (i := 337) (by decide +kernel)⟩
theorem lw_p7 : lw_okq (⟨"FaxFilter$Sender", "sendWay", "(I)V"⟩, 5) := ⟨⟨by decide +kernel, by decide +kernel⟩, List.mem_of_getElem? (i := 149) (by decide +kernel), List.mem_of_getElem? (i := 349) (by decide +kernel), List.mem_of_getElem? (i := 350) (by decide +kernel)⟩
theorem lw_p8 : lw_okq (⟨"FaxFilter$Sender", "sendEnd", "()V"⟩, 5) := ⟨⟨by decide +kernel, by decide +kernel⟩, List.mem_of_getElem? (i := 149) (by decide +kernel), List.mem_of_getElem? (i := 357) (by decide +kernel), List.mem_of_getElem? (i := 358) (by decide +kernel)⟩
theorem lw_p9 : lw_okq (⟨"java/lang/Throwable", "fillInStackTrace", "(I)Ljava/lang/Throwable;"⟩, 6) := ⟨⟨by decide +kernel, by decide +kernel⟩, List.mem_of_getElem? (i := 410) (by decide +kernel), List.mem_of_getElem? (i := 408) (by decide +kernel), List.mem_of_getElem? (i := 409) (by decide +kernel)⟩
theorem lw_p10 : lw_okq (⟨"FaxFilter$BitsIn", "bitAt", "(I)I"⟩, 3) := ⟨⟨by decide +kernel, by decide +kernel⟩, List.mem_of_getElem? (i := 117) (by decide +kernel), List.mem_of_getElem? (i := 472) (by decide +kernel), List.mem_of_getElem? (i := 473) (by decide +kernel)⟩
theorem lw_p11 : lw_okq (⟨"FaxFilter$BitsIn", "byteAt", "(I)I"⟩, 3) := ⟨⟨by decide +kernel, by decide +kernel⟩, List.mem_of_getElem? (i := 117) (by decide +kernel), List.mem_of_getElem? (i := 476) (by decide +kernel), List.mem_of_getElem? (i := 477) (by decide +kernel)⟩
theorem lw_p12 : lw_okq (⟨"FaxFilter$Receiver", "readPlain", "(I)I"⟩, 9) := ⟨⟨by decide +kernel, by decide +kernel⟩, List.mem_of_getElem? (i := 171) (by decide +kernel), List.mem_of_getElem? (i := 519) (by decide +kernel), List.mem_of_getElem? (i := 520) (by decide +kernel)⟩
theorem lw_p13 : lw_okq (⟨"FaxFilter$Receiver", "readRun", "(Z)I"⟩, 9) := ⟨⟨by decide +kernel, by decide +kernel⟩, List.mem_of_getElem? (i := 171) (by decide +kernel), List.mem_of_getElem? (i := 523) (by decide +kernel), List.mem_of_getElem? (i := 524) (by decide +kernel)⟩
theorem lw_p14 : lw_okq (⟨"FaxFilter$Receiver", "plainStateWithout", "(I)I"⟩, 9) := ⟨⟨by decide +kernel, by decide +kernel⟩, List.mem_of_getElem? (i := 171) (by decide +kernel), List.mem_of_getElem? (i := 535) (by decide +kernel), List.mem_of_getElem? (i := 536) (by decide +kernel)⟩
theorem lw_p15 : lw_okq (⟨"FaxFilter$Receiver", "layTo", "(IIZ)V"⟩, 9) := ⟨⟨by decide +kernel, by decide +kernel⟩, List.mem_of_getElem? (i := 171) (by decide +kernel), List.mem_of_getElem? (i := 540) (by decide +kernel), List.mem_of_getElem? (i := 541) (by decide +kernel)⟩
def lw_privs_1 : List (MethodName × Nat) := [(⟨"FaxFilter$Sender", "sendStart", "(Z)V"⟩, 5), (⟨"FaxFilter$Sender", "sendMark", "(Z)V"⟩, 5), (⟨"FaxFilter$Sender", "sendPlain", "(I)V"⟩, 5), (⟨"FaxFilter$Picture", "wordOf", "(II)J"⟩, 5), (⟨"FaxFilter$Picture", "indexOf", "(II)I"⟩, 5), (⟨"FaxFilter$Sender", "sendRun", "(IZ)V"⟩, 5), (⟨"FaxFilter$Sender", "sendDrawn", "(I)V"⟩, 5), (⟨"FaxFilter$Sender", "sendWay", "(I)V"⟩, 5), (⟨"FaxFilter$Sender", "sendEnd", "()V"⟩, 5), (⟨"java/lang/Throwable", "fillInStackTrace", "(I)Ljava/lang/Throwable;"⟩, 6), (⟨"FaxFilter$BitsIn", "bitAt", "(I)I"⟩, 3), (⟨"FaxFilter$BitsIn", "byteAt", "(I)I"⟩, 3), (⟨"FaxFilter$Receiver", "readPlain", "(I)I"⟩, 9), (⟨"FaxFilter$Receiver", "readRun", "(Z)I"⟩, 9), (⟨"FaxFilter$Receiver", "plainStateWithout", "(I)I"⟩, 9), (⟨"FaxFilter$Receiver", "layTo", "(IIZ)V"⟩, 9)]
theorem lw_r1 : ∀ q ∈ lw_privs_1, lw_okq q := List.forall_mem_cons.mpr ⟨lw_p0, List.forall_mem_cons.mpr ⟨lw_p1, List.forall_mem_cons.mpr ⟨lw_p2, List.forall_mem_cons.mpr ⟨lw_p3, List.forall_mem_cons.mpr ⟨lw_p4, List.forall_mem_cons.mpr ⟨lw_p5, List.forall_mem_cons.mpr ⟨lw_p6, List.forall_mem_cons.mpr ⟨lw_p7, List.forall_mem_cons.mpr ⟨lw_p8, List.forall_mem_cons.mpr ⟨lw_p9, List.forall_mem_cons.mpr ⟨lw_p10, List.forall_mem_cons.mpr ⟨lw_p11, List.forall_mem_cons.mpr ⟨lw_p12, List.forall_mem_cons.mpr ⟨lw_p13, List.forall_mem_cons.mpr ⟨lw_p14, List.forall_mem_cons.mpr ⟨lw_p15, fun _ h => absurd h List.not_mem_nil⟩⟩⟩⟩⟩⟩⟩⟩⟩⟩⟩⟩⟩⟩⟩⟩
theorem lw_p16 : lw_okq (⟨"FaxFilter$Receiver", "readDrawn", "(I)I"⟩, 9) := ⟨⟨by decide +kernel, by decide +kernel⟩, List.mem_of_getElem? (i := 171) (by decide +kernel), List.mem_of_getElem? (i := 546) (by decide +kernel), List.mem_of_getElem? (i := 547) (by decide +kernel)⟩
theorem lw_p17 : lw_okq (⟨"FaxFilter$Receiver", "readWay", "()I"⟩, 9) := ⟨⟨by decide +kernel, by decide +kernel⟩, List.mem_of_getElem? (i := 171) (by decide +kernel), List.mem_of_getElem? (i := 550) (by decide +kernel), List.mem_of_getElem? (i := 551) (by decide +kernel)⟩
theorem lw_p18 : lw_okq (⟨"FaxFilter$Receiver", "layAcross", "(IZ)I"⟩, 9) := ⟨⟨by decide +kernel, by decide +kernel⟩, List.mem_of_getElem? (i := 171) (by decide +kernel), List.mem_of_getElem? (i := 556) (by decide +kernel), List.mem_of_getElem? (i := 557) (by decide +kernel)⟩
theorem lw_p19 : lw_okq (⟨"FaxFilterModel", "makeTable", "(I)V"⟩, 22) := ⟨⟨by decide +kernel, by decide +kernel⟩, List.mem_of_getElem? (i := 706) (by decide +kernel), List.mem_of_getElem? (i := 713) (by decide +kernel), List.mem_of_getElem? (i := 714) (by decide +kernel)⟩
theorem lw_p20 : lw_okq (⟨"FaxFilterModel", "byteOf", "(I)I"⟩, 22) := ⟨⟨by decide +kernel, by decide +kernel⟩, List.mem_of_getElem? (i := 706) (by decide +kernel), List.mem_of_getElem? (i := 820) (by decide +kernel), List.mem_of_getElem? (i := 821) (by decide +kernel)⟩
theorem lw_p21 : lw_okq (⟨"FaxFilterModel", "isRow", "(I)Z"⟩, 22) := ⟨⟨by decide +kernel, by decide +kernel⟩, List.mem_of_getElem? (i := 706) (by decide +kernel), List.mem_of_getElem? (i := 832) (by decide +kernel), List.mem_of_getElem? (i := 833) (by decide +kernel)⟩
theorem lw_p22 : lw_okq (⟨"FaxFilterModel", "paint", "(IIIZ)V"⟩, 22) := ⟨⟨by decide +kernel, by decide +kernel⟩, List.mem_of_getElem? (i := 706) (by decide +kernel), List.mem_of_getElem? (i := 840) (by decide +kernel), List.mem_of_getElem? (i := 841) (by decide +kernel)⟩
theorem lw_p23 : lw_okq (⟨"FaxFilterModel", "runsOf", "(I)I"⟩, 22) := ⟨⟨by decide +kernel, by decide +kernel⟩, List.mem_of_getElem? (i := 706) (by decide +kernel), List.mem_of_getElem? (i := 860) (by decide +kernel), List.mem_of_getElem? (i := 861) (by decide +kernel)⟩
theorem lw_p24 : lw_okq (⟨"FaxFilterModel", "isChange", "(II)Z"⟩, 22) := ⟨⟨by decide +kernel, by decide +kernel⟩, List.mem_of_getElem? (i := 706) (by decide +kernel), List.mem_of_getElem? (i := 864) (by decide +kernel), List.mem_of_getElem? (i := 865) (by decide +kernel)⟩
theorem lw_p25 : lw_okq (⟨"FaxFilterModel", "at", "(II)Z"⟩, 22) := ⟨⟨by decide +kernel, by decide +kernel⟩, List.mem_of_getElem? (i := 706) (by decide +kernel), List.mem_of_getElem? (i := 868) (by decide +kernel), List.mem_of_getElem? (i := 869) (by decide +kernel)⟩
theorem lw_p26 : lw_okq (⟨"FaxFilterModel", "hasMarks", "()Z"⟩, 22) := ⟨⟨by decide +kernel, by decide +kernel⟩, List.mem_of_getElem? (i := 706) (by decide +kernel), List.mem_of_getElem? (i := 880) (by decide +kernel), List.mem_of_getElem? (i := 881) (by decide +kernel)⟩
theorem lw_p27 : lw_okq (⟨"FaxFilterModel", "fill", "(I)V"⟩, 22) := ⟨⟨by decide +kernel, by decide +kernel⟩, List.mem_of_getElem? (i := 706) (by decide +kernel), List.mem_of_getElem? (i := 884) (by decide +kernel), List.mem_of_getElem? (i := 885) (by decide +kernel)⟩
theorem lw_p28 : lw_okq (⟨"FaxFilterModel", "putBit", "(Z)V"⟩, 22) := ⟨⟨by decide +kernel, by decide +kernel⟩, List.mem_of_getElem? (i := 706) (by decide +kernel), List.mem_of_getElem? (i := 888) (by decide +kernel), List.mem_of_getElem? (i := 889) (by decide +kernel)⟩
theorem lw_p29 : lw_okq (⟨"FaxFilterModel", "putMark", "()V"⟩, 22) := ⟨⟨by decide +kernel, by decide +kernel⟩, List.mem_of_getElem? (i := 706) (by decide +kernel), List.mem_of_getElem? (i := 892) (by decide +kernel), List.mem_of_getElem? (i := 893) (by decide +kernel)⟩
theorem lw_p30 : lw_okq (⟨"FaxFilterModel", "putBits", "(II)V"⟩, 22) := ⟨⟨by decide +kernel, by decide +kernel⟩, List.mem_of_getElem? (i := 706) (by decide +kernel), List.mem_of_getElem? (i := 896) (by decide +kernel), List.mem_of_getElem? (i := 897) (by decide +kernel)⟩
theorem lw_p31 : lw_okq (⟨"FaxFilterModel", "isPlain", "(I)Z"⟩, 22) := ⟨⟨by decide +kernel, by decide +kernel⟩, List.mem_of_getElem? (i := 706) (by decide +kernel), List.mem_of_getElem? (i := 900) (by decide +kernel), List.mem_of_getElem? (i := 901) (by decide +kernel)⟩
def lw_privs_2 : List (MethodName × Nat) := [(⟨"FaxFilter$Receiver", "readDrawn", "(I)I"⟩, 9), (⟨"FaxFilter$Receiver", "readWay", "()I"⟩, 9), (⟨"FaxFilter$Receiver", "layAcross", "(IZ)I"⟩, 9), (⟨"FaxFilterModel", "makeTable", "(I)V"⟩, 22), (⟨"FaxFilterModel", "byteOf", "(I)I"⟩, 22), (⟨"FaxFilterModel", "isRow", "(I)Z"⟩, 22), (⟨"FaxFilterModel", "paint", "(IIIZ)V"⟩, 22), (⟨"FaxFilterModel", "runsOf", "(I)I"⟩, 22), (⟨"FaxFilterModel", "isChange", "(II)Z"⟩, 22), (⟨"FaxFilterModel", "at", "(II)Z"⟩, 22), (⟨"FaxFilterModel", "hasMarks", "()Z"⟩, 22), (⟨"FaxFilterModel", "fill", "(I)V"⟩, 22), (⟨"FaxFilterModel", "putBit", "(Z)V"⟩, 22), (⟨"FaxFilterModel", "putMark", "()V"⟩, 22), (⟨"FaxFilterModel", "putBits", "(II)V"⟩, 22), (⟨"FaxFilterModel", "isPlain", "(I)Z"⟩, 22)]
theorem lw_r2 : ∀ q ∈ lw_privs_2, lw_okq q := List.forall_mem_cons.mpr ⟨lw_p16, List.forall_mem_cons.mpr ⟨lw_p17, List.forall_mem_cons.mpr ⟨lw_p18, List.forall_mem_cons.mpr ⟨lw_p19, List.forall_mem_cons.mpr ⟨lw_p20, List.forall_mem_cons.mpr ⟨lw_p21, List.forall_mem_cons.mpr ⟨lw_p22, List.forall_mem_cons.mpr ⟨lw_p23, List.forall_mem_cons.mpr ⟨lw_p24, List.forall_mem_cons.mpr ⟨lw_p25, List.forall_mem_cons.mpr ⟨lw_p26, List.forall_mem_cons.mpr ⟨lw_p27, List.forall_mem_cons.mpr ⟨lw_p28, List.forall_mem_cons.mpr ⟨lw_p29, List.forall_mem_cons.mpr ⟨lw_p30, List.forall_mem_cons.mpr ⟨lw_p31, fun _ h => absurd h List.not_mem_nil⟩⟩⟩⟩⟩⟩⟩⟩⟩⟩⟩⟩⟩⟩⟩⟩
theorem lw_p32 : lw_okq (⟨"FaxFilterModel", "writePlain", "(I)V"⟩, 22) := ⟨⟨by decide +kernel, by decide +kernel⟩, List.mem_of_getElem? (i := 706) (by decide +kernel), List.mem_of_getElem? (i := 904) (by decide +kernel), List.mem_of_getElem? (i := 905) (by decide +kernel)⟩
theorem lw_p33 : lw_okq (⟨"FaxFilterModel", "otherFrom", "(IIZ)I"⟩, 22) := ⟨⟨by decide +kernel, by decide +kernel⟩, List.mem_of_getElem? (i := 706) (by decide +kernel), List.mem_of_getElem? (i := 908) (by decide +kernel), List.mem_of_getElem? (i := 909) (by decide +kernel)⟩
theorem lw_p34 : lw_okq (⟨"FaxFilterModel", "putRun", "(ZI)V"⟩, 22) := ⟨⟨by decide +kernel, by decide +kernel⟩, List.mem_of_getElem? (i := 706) (by decide +kernel), List.mem_of_getElem? (i := 912) (by decide +kernel), List.mem_of_getElem? (i := 913) (by decide +kernel)⟩
theorem lw_p35 : lw_okq (⟨"FaxFilterModel", "putCode", "(II)V"⟩, 22) := ⟨⟨by decide +kernel, by decide +kernel⟩, List.mem_of_getElem? (i := 706) (by decide +kernel), List.mem_of_getElem? (i := 916) (by decide +kernel), List.mem_of_getElem? (i := 917) (by decide +kernel)⟩
theorem lw_p36 : lw_okq (⟨"FaxFilterModel", "writeDrawn", "(I)V"⟩, 22) := ⟨⟨by decide +kernel, by decide +kernel⟩, List.mem_of_getElem? (i := 706) (by decide +kernel), List.mem_of_getElem? (i := 920) (by decide +kernel), List.mem_of_getElem? (i := 921) (by decide +kernel)⟩
theorem lw_p37 : lw_okq (⟨"FaxFilterModel", "begin", "()V"⟩, 22) := ⟨⟨by decide +kernel, by decide +kernel⟩, List.mem_of_getElem? (i := 706) (by decide +kernel), List.mem_of_getElem? (i := 924) (by decide +kernel), List.mem_of_getElem? (i := 925) (by decide +kernel)⟩
theorem lw_p38 : lw_okq (⟨"FaxFilterModel", "look", "(I)V"⟩, 22) := ⟨⟨by decide +kernel, by decide +kernel⟩, List.mem_of_getElem? (i := 706) (by decide +kernel), List.mem_of_getElem? (i := 928) (by decide +kernel), List.mem_of_getElem? (i := 929) (by decide +kernel)⟩
theorem lw_p39 : lw_okq (⟨"FaxFilterModel", "putStep", "(I)V"⟩, 22) := ⟨⟨by decide +kernel, by decide +kernel⟩, List.mem_of_getElem? (i := 706) (by decide +kernel), List.mem_of_getElem? (i := 932) (by decide +kernel), List.mem_of_getElem? (i := 933) (by decide +kernel)⟩
theorem lw_p40 : lw_okq (⟨"FaxFilterModel", "finish", "()V"⟩, 22) := ⟨⟨by decide +kernel, by decide +kernel⟩, List.mem_of_getElem? (i := 706) (by decide +kernel), List.mem_of_getElem? (i := 936) (by decide +kernel), List.mem_of_getElem? (i := 937) (by decide +kernel)⟩
theorem lw_p41 : lw_okq (⟨"FaxFilterModel", "readHead", "()I"⟩, 22) := ⟨⟨by decide +kernel, by decide +kernel⟩, List.mem_of_getElem? (i := 706) (by decide +kernel), List.mem_of_getElem? (i := 948) (by decide +kernel), List.mem_of_getElem? (i := 949) (by decide +kernel)⟩
theorem lw_p42 : lw_okq (⟨"FaxFilterModel", "findMark", "()Z"⟩, 22) := ⟨⟨by decide +kernel, by decide +kernel⟩, List.mem_of_getElem? (i := 706) (by decide +kernel), List.mem_of_getElem? (i := 952) (by decide +kernel), List.mem_of_getElem? (i := 953) (by decide +kernel)⟩
theorem lw_p43 : lw_okq (⟨"FaxFilterModel", "zeros", "()I"⟩, 22) := ⟨⟨by decide +kernel, by decide +kernel⟩, List.mem_of_getElem? (i := 706) (by decide +kernel), List.mem_of_getElem? (i := 956) (by decide +kernel), List.mem_of_getElem? (i := 957) (by decide +kernel)⟩
theorem lw_p44 : lw_okq (⟨"FaxFilterModel", "left", "()I"⟩, 22) := ⟨⟨by decide +kernel, by decide +kernel⟩, List.mem_of_getElem? (i := 706) (by decide +kernel), List.mem_of_getElem? (i := 960) (by decide +kernel), List.mem_of_getElem? (i := 961) (by decide +kernel)⟩
theorem lw_p45 : lw_okq (⟨"FaxFilterModel", "bitAt", "(I)I"⟩, 22) := ⟨⟨by decide +kernel, by decide +kernel⟩, List.mem_of_getElem? (i := 706) (by decide +kernel), List.mem_of_getElem? (i := 964) (by decide +kernel), List.mem_of_getElem? (i := 965) (by decide +kernel)⟩
theorem lw_p46 : lw_okq (⟨"FaxFilterModel", "isMarkHere", "()Z"⟩, 22) := ⟨⟨by decide +kernel, by decide +kernel⟩, List.mem_of_getElem? (i := 706) (by decide +kernel), List.mem_of_getElem? (i := 968) (by decide +kernel), List.mem_of_getElem? (i := 969) (by decide +kernel)⟩
theorem lw_p47 : lw_okq (⟨"FaxFilterModel", "readPlain", "(I)Z"⟩, 22) := ⟨⟨by decide +kernel, by decide +kernel⟩, List.mem_of_getElem? (i := 706) (by decide +kernel), List.mem_of_getElem? (i := 972) (by decide +kernel), List.mem_of_getElem? (i := 973) (by decide +kernel)⟩
def lw_privs_3 : List (MethodName × Nat) := [(⟨"FaxFilterModel", "writePlain", "(I)V"⟩, 22), (⟨"FaxFilterModel", "otherFrom", "(IIZ)I"⟩, 22), (⟨"FaxFilterModel", "putRun", "(ZI)V"⟩, 22), (⟨"FaxFilterModel", "putCode", "(II)V"⟩, 22), (⟨"FaxFilterModel", "writeDrawn", "(I)V"⟩, 22), (⟨"FaxFilterModel", "begin", "()V"⟩, 22), (⟨"FaxFilterModel", "look", "(I)V"⟩, 22), (⟨"FaxFilterModel", "putStep", "(I)V"⟩, 22), (⟨"FaxFilterModel", "finish", "()V"⟩, 22), (⟨"FaxFilterModel", "readHead", "()I"⟩, 22), (⟨"FaxFilterModel", "findMark", "()Z"⟩, 22), (⟨"FaxFilterModel", "zeros", "()I"⟩, 22), (⟨"FaxFilterModel", "left", "()I"⟩, 22), (⟨"FaxFilterModel", "bitAt", "(I)I"⟩, 22), (⟨"FaxFilterModel", "isMarkHere", "()Z"⟩, 22), (⟨"FaxFilterModel", "readPlain", "(I)Z"⟩, 22)]
theorem lw_r3 : ∀ q ∈ lw_privs_3, lw_okq q := List.forall_mem_cons.mpr ⟨lw_p32, List.forall_mem_cons.mpr ⟨lw_p33, List.forall_mem_cons.mpr ⟨lw_p34, List.forall_mem_cons.mpr ⟨lw_p35, List.forall_mem_cons.mpr ⟨lw_p36, List.forall_mem_cons.mpr ⟨lw_p37, List.forall_mem_cons.mpr ⟨lw_p38, List.forall_mem_cons.mpr ⟨lw_p39, List.forall_mem_cons.mpr ⟨lw_p40, List.forall_mem_cons.mpr ⟨lw_p41, List.forall_mem_cons.mpr ⟨lw_p42, List.forall_mem_cons.mpr ⟨lw_p43, List.forall_mem_cons.mpr ⟨lw_p44, List.forall_mem_cons.mpr ⟨lw_p45, List.forall_mem_cons.mpr ⟨lw_p46, List.forall_mem_cons.mpr ⟨lw_p47, fun _ h => absurd h List.not_mem_nil⟩⟩⟩⟩⟩⟩⟩⟩⟩⟩⟩⟩⟩⟩⟩⟩
theorem lw_p48 : lw_okq (⟨"FaxFilterModel", "takeRun", "(Z)I"⟩, 22) := ⟨⟨by decide +kernel, by decide +kernel⟩, List.mem_of_getElem? (i := 706) (by decide +kernel), List.mem_of_getElem? (i := 976) (by decide +kernel), List.mem_of_getElem? (i := 977) (by decide +kernel)⟩
theorem lw_p49 : lw_okq (⟨"FaxFilterModel", "takeCode", "(I)I"⟩, 22) := ⟨⟨by decide +kernel, by decide +kernel⟩, List.mem_of_getElem? (i := 706) (by decide +kernel), List.mem_of_getElem? (i := 980) (by decide +kernel), List.mem_of_getElem? (i := 981) (by decide +kernel)⟩
theorem lw_p50 : lw_okq (⟨"FaxFilterModel", "begins", "(II)Z"⟩, 22) := ⟨⟨by decide +kernel, by decide +kernel⟩, List.mem_of_getElem? (i := 706) (by decide +kernel), List.mem_of_getElem? (i := 984) (by decide +kernel), List.mem_of_getElem? (i := 985) (by decide +kernel)⟩
theorem lw_p51 : lw_okq (⟨"FaxFilterModel", "paintRun", "(IIIZ)I"⟩, 22) := ⟨⟨by decide +kernel, by decide +kernel⟩, List.mem_of_getElem? (i := 706) (by decide +kernel), List.mem_of_getElem? (i := 988) (by decide +kernel), List.mem_of_getElem? (i := 989) (by decide +kernel)⟩
theorem lw_p52 : lw_okq (⟨"FaxFilterModel", "readDrawn", "(I)Z"⟩, 22) := ⟨⟨by decide +kernel, by decide +kernel⟩, List.mem_of_getElem? (i := 706) (by decide +kernel), List.mem_of_getElem? (i := 992) (by decide +kernel), List.mem_of_getElem? (i := 993) (by decide +kernel)⟩
theorem lw_p53 : lw_okq (⟨"FaxFilterModel", "takeStep", "()I"⟩, 22) := ⟨⟨by decide +kernel, by decide +kernel⟩, List.mem_of_getElem? (i := 706) (by decide +kernel), List.mem_of_getElem? (i := 996) (by decide +kernel), List.mem_of_getElem? (i := 997) (by decide +kernel)⟩
theorem lw_p54 : lw_okq (⟨"FaxFilterModel", "readAcross", "(I)Z"⟩, 22) := ⟨⟨by decide +kernel, by decide +kernel⟩, List.mem_of_getElem? (i := 706) (by decide +kernel), List.mem_of_getElem? (i := 1000) (by decide +kernel), List.mem_of_getElem? (i := 1001) (by decide +kernel)⟩
theorem lw_p55 : lw_okq (⟨"FaxFilterModel", "repair", "(I)V"⟩, 22) := ⟨⟨by decide +kernel, by decide +kernel⟩, List.mem_of_getElem? (i := 706) (by decide +kernel), List.mem_of_getElem? (i := 1004) (by decide +kernel), List.mem_of_getElem? (i := 1005) (by decide +kernel)⟩
def lw_privs_4 : List (MethodName × Nat) := [(⟨"FaxFilterModel", "takeRun", "(Z)I"⟩, 22), (⟨"FaxFilterModel", "takeCode", "(I)I"⟩, 22), (⟨"FaxFilterModel", "begins", "(II)Z"⟩, 22), (⟨"FaxFilterModel", "paintRun", "(IIIZ)I"⟩, 22), (⟨"FaxFilterModel", "readDrawn", "(I)Z"⟩, 22), (⟨"FaxFilterModel", "takeStep", "()I"⟩, 22), (⟨"FaxFilterModel", "readAcross", "(I)Z"⟩, 22), (⟨"FaxFilterModel", "repair", "(I)V"⟩, 22)]
theorem lw_r4 : ∀ q ∈ lw_privs_4, lw_okq q := List.forall_mem_cons.mpr ⟨lw_p48, List.forall_mem_cons.mpr ⟨lw_p49, List.forall_mem_cons.mpr ⟨lw_p50, List.forall_mem_cons.mpr ⟨lw_p51, List.forall_mem_cons.mpr ⟨lw_p52, List.forall_mem_cons.mpr ⟨lw_p53, List.forall_mem_cons.mpr ⟨lw_p54, List.forall_mem_cons.mpr ⟨lw_p55, fun _ h => absurd h List.not_mem_nil⟩⟩⟩⟩⟩⟩⟩⟩
def lw_privs : List (MethodName × Nat) := lw_privs_1 ++ (lw_privs_2 ++ (lw_privs_3 ++ (lw_privs_4)))
def lw_tbl : List Cond := k2_sels lw_privs ++ tables_1
theorem lw_privs_ok : ∀ q ∈ lw_privs, lw_okq q := by
  show ∀ q ∈ lw_privs_1 ++ (lw_privs_2 ++ (lw_privs_3 ++ (lw_privs_4))), lw_okq q
  exact List.forall_mem_append.mpr ⟨lw_r1, List.forall_mem_append.mpr ⟨lw_r2, List.forall_mem_append.mpr ⟨lw_r3, lw_r4⟩⟩⟩
end
section
/-! ===== BEGIN words of one list among another's, by their places ===== -/
theorem goodIn_r {big : List Cond} (ws : List Cond) (ps : List Nat) (hp : ws = ps.filterMap (fun i => big[i]?)) (h : ws.all goodWord = true) : GoodIn big ws := by
  intro w hw
  have h1 := List.all_eq_true.mp h w hw
  rw [hp] at hw
  obtain ⟨i, -, hi⟩ := List.mem_filterMap.mp hw
  have hm : w ∈ big := by first | exact List.mem_of_getElem? hi | exact List.getElem?_mem hi
  exact ⟨hm, good_of_word h1⟩
theorem goodIn_app {big a b : List Cond} (ha : GoodIn big a) (hb : GoodIn big b) : GoodIn big (a ++ b) := fun w h => (List.mem_append.mp h).elim (ha w) (hb w)
theorem goodIn_ca {big a b : List Cond} {c : Cond} (ha : GoodIn big (c :: a)) (hb : GoodIn big b) : GoodIn big (c :: (a ++ b)) := fun w h => (List.mem_cons.mp h).elim (fun e => ha w (List.mem_cons.mpr (Or.inl e))) (fun h => (List.mem_append.mp h).elim (fun h => ha w (List.mem_cons.mpr (Or.inr h))) (hb w))
theorem goodIn_sub {big ws : List Cond} (hm : ∀ w ∈ ws, w ∈ big) (h : ws.all goodWord = true) : GoodIn big ws := fun w hw => ⟨hm w hw, good_of_word (List.all_eq_true.mp h w hw)⟩
/-! ===== END ===== -/

/-! ===== BEGIN exceptions that leave a method, and their catching by the caller (launches without stack traces) ===== -/
section VXA
/-! The laws vx_back, vx_callV, vx_callS, vx_callSW, vx_throw0, vx_throwS follow proofs of the library, with one case more: JvmDerived/Free/Laws.lean (Back.of_free), Shelf42/LK1.lean (callV, callS), Shelf/KitTraced.lean (throwNew0V, throwNewS). -/
/-- where a method has thrown q: the class by its name, the cell, what was written, the world -/
def vx_T (XC : String → State → State → Prop) (st : State) (q : Addr) (t : State) (mc ms : Nat) (free : Addr → Prop) : Prop :=
  ∃ (E : String) (ce : Cell) (L : List Loc), XC E st t ∧ t.heap[q]? = some ce ∧ ce.vm = .none ∧ st.vm.findClass E = some ce.cls ∧ st.WarmedH t.vm ∧ st.sameButNew ({ t with vm := st.vm } : State) L mc ms ∧ ∀ z ∈ L, free z.base
def vx_Q (Qc : Array Value → State → Outcome → State → Prop) (XC : String → State → State → Prop) (mc ms : Nat) (free : Addr → Prop) : Array Value → State → Outcome → State → Prop := fun a st o t =>
  (Qc a st o t ∧ ∃ L, FrameEnd st o t L mc ms ∧ ∀ q ∈ L, free q.base) ∨ ∃ q, o = .threw q ∧ vx_T XC st q t mc ms free
/-- a callee that returns or throws -/
def vx_Met (l : Launch) (y : MethodName) (ws : List Cond) (rm : Room) (Pc : Array Value → State → Prop) (Qc : Array Value → State → Outcome → State → Prop) (XC : String → State → State → Prop) (mc ms : Nat) (free : Addr → Prop) : Prop :=
  MetFree l y (headSpec ws rm) Pc (fun _ _ _ _ _ => True) (vx_Q Qc XC mc ms free)
def vx_Post (XC : String → State → State → Prop) (mc ms : Nat) (free : Addr → Prop) : Pt → Array Value → Addr → Pt → Prop := fun A a q B =>
  ∃ (g : JFrame) (mk : MethodId) (t : State) (L : List Loc) (E : String) (ce : Cell), B.U.heap = t.heap ∧ B.U.vm = t.vm ∧ XC E (A.U.calling g mk a) t ∧ t.heap[q]? = some ce ∧ ce.vm = .none ∧ A.U.vm.findClass E = some ce.cls ∧ B.locs = A.locs ++ L ∧ (∀ z ∈ L, free z.base) ∧ B.cells = A.cells + mc ∧ B.slots = A.slots + ms
def vx_Back (l : Launch) (R : Room) (p : Program) (e : Env) (below : List Frame) (s : State) (sargs : Array Value) (y : MethodName) (len W9 : Nat)
    (Pre : Pt → Array Value → Prop) (Post : Pt → Array Value → Option Value → Pt → Prop) (PostX : Pt → Array Value → Addr → Pt → Prop) : Prop :=
  ∀ (m : MethodId) (meth : Method) (c : Code) (A : Pt) (g : JFrame) (ig : Instr) (mk : MethodId) (a : Array Value),
    Stand p l e R s m sargs below meth c A.U A.locs A.cells A.slots → g.method = m → g.locals.size = c.maxLocals → decode c.code g.pc = .ok (ig, len) →
    2 * g.monitorRoom + (g.stack.map fun v => v.category).sum ≤ W9 → A.U.methodNamed? y = some mk → Pre A a →
    (∃ (v : Option Value) (B : Pt), Stand p l e R s m sargs below meth c B.U B.locs B.cells B.slots ∧ Post A a v B ∧
      Steps p.tables e below (doInvoke e (A.U.setTop g) [] mk a).1 (B.U.setTop { g with pc := g.pc + len, stack := v.toList ++ g.stack })) ∨
    (∃ (q : Addr) (B : Pt), Stand p l e R s m sargs below meth c B.U B.locs B.cells B.slots ∧ PostX A a q B ∧
      Steps p.tables e below (doInvoke e (A.U.setTop g) [] mk a).1 ((B.U.setTop g).pushFrame (.throwing q)))
section Payer
variable {l : Launch} {R : Room} {p : Program} {e : Env} {below : List Frame} {s : State} {sargs : Array Value} {y : MethodName} {len W9 : Nat}
theorem vx_back {ws : List Cond} {rm : Room} {Pc : Array Value → State → Prop} {Qc : Array Value → State → Outcome → State → Prop} {XC : String → State → State → Prop} {mc ms : Nat} {free : Addr → Prop} {bytes : ByteArray} {maxL : Nat} {ret : Option FieldType}
    (hM : vx_Met l y ws rm Pc Qc XC mc ms free) (hblind : FrameBlind Pc) (hrc : rm.cells = mc) (hrs : rm.slots = ms)
    (hframes : rm.frames + 1 ≤ R.frames) (hlocals : W9 + (maxL + 11) + rm.locals ≤ R.locals)
    (hws : ∀ w ∈ ws, ∀ a' U, s.WarmedH U.vm → w.before a' U = true) (hcode : Cond.code y bytes maxL ret ∈ ws) (hinit : ∀ a' U, s.WarmedH U.vm → (Cond.initialized y.cls).before a' U = true) :
    vx_Back l R p e below s sargs y len W9 (PreOf R mc ms Pc) (PostOf Qc mc ms free) (vx_Post XC mc ms free) := by
  intro m meth c A g ig mk a X hg hsize hdg hW hn hp
  have h1 : (headSpec ws rm).pre.before a A.U = true := atoms_intro fun w hw => hws w hw _ _ X.warmed
  have h2 : (Cond.code y bytes maxL ret).before a A.U = true := hws _ hcode _ _ X.warmed
  have h3 : (Cond.initialized y.cls).before a A.U = true := hinit _ _ X.warmed
  have h4 : A.cells + (headSpec ws rm).room.cells ≤ R.cells := by rw [show (headSpec ws rm).room.cells = mc from hrc]; exact hp.1
  have h5 : A.slots + (headSpec ws rm).room.slots ≤ R.slots := by rw [show (headSpec ws rm).room.slots = ms from hrs]; exact hp.2.1
  have hPc : Pc a (A.U.calling g mk a) := hblind _ _ _ _ hp.2.2
  obtain ⟨U, Ls, c0, s0⟩ := A
  dsimp only [Pt.U, Pt.locs, Pt.cells, Pt.slots] at h1 h2 h3 h4 h5 X hn hPc ⊢
  obtain ⟨methY, cY, hmY, hcY, -, hlY, -, -, -, -⟩ := Cond.code_spec hn h2
  obtain ⟨kY, hkY, -⟩ := className_of_methodNamed hn
  have hinitY : kY.init = .initialized := Cond.initialized_spec (findClass_of_methodNamed hn) hkY h3
  have h : At U g.method c below := by rw [hg]; exact X.here
  have hlocals9 : W9 + (maxL + 11) + (headSpec ws rm).room.locals ≤ R.locals := hlocals
  have happ : (headSpec ws rm).appliesLoose y e.platform (U.calling g mk a) = true :=
    Spec.appliesLoose_calling (g := g) h hdg hn hkY hinitY
      (X.room_calling (g := g) (R' := (headSpec ws rm).room) hsize hmY hcY hframes (by rw [hlY]; omega) h4 h5) h1
  obtain ⟨mid, hmid⟩ := h.above
  have hfr : (U.setTop g).frames = (.java g :: mid) ++ below := by rw [State.frames_setTop' g h.top, hmid]; rfl
  obtain ⟨o, s₂, hsteps, -, hend, hq⟩ := Steps.callFree hM p X.admits X.cas X.clock (acts := []) hfr happ hPc trivial
  have hq' : vx_Q Qc XC mc ms free a (U.calling g mk a) o s₂ := hq
  rw [State.frames_setTop' g h.top] at hend
  obtain ⟨g₀, hg0⟩ := Option.isSome_iff_exists.mp h.top
  obtain ⟨r, hr⟩ := State.topJava?_eq_some.mp hg0
  have hr' : (({ U with heap := s₂.heap, slotsUsed := s₂.slotsUsed } : State).setVm s₂.vm).frames = .java g₀ :: r := hr
  rcases hq' with ⟨hqc, L, hfe, hL⟩ | ⟨q, rfl, E, ce, L, hx, hce, hcv, hcl, hW₂, hsm, hL⟩
  · obtain ⟨⟨v, rfl⟩, hW₂, e2, q2, q3, q4, q5, q6⟩ := id hfe
    have e3 : s₂ = ({ (U.calling g mk a).setFrames s₂.frames with heap := s₂.heap, slotsUsed := s₂.slotsUsed } : State).setVm s₂.vm := by
      have : s₂ = ({ s₂ with vm := (U.calling g mk a).vm } : State).setVm s₂.vm := rfl
      rw [e2] at this
      exact this
    obtain ⟨c₂, i₂, len₂, hc₂, hd₂, hf₂⟩ := hend
    have hW' : U.WarmedH s₂.vm := hW₂
    have hcc : c₂ = c := by
      have h1 : s₂.code? g.method = U.code? g.method := by
        rw [State.code?_eq, State.code?_eq, hW'.alike.method?]
      exact Option.some.inj (hc₂.symm.trans (h1.trans h.code))
    subst hcc
    have hlen : len₂ = len := by rw [hdg] at hd₂; cases hd₂; rfl
    subst hlen
    have hs₂ : s₂ = (({ U with heap := s₂.heap, slotsUsed := s₂.slotsUsed } : State).setVm s₂.vm).setTop { g with pc := g.pc + len₂, stack := v.toList ++ g.stack } := by
      refine e3.trans ?_
      rw [hf₂, State.calling_eq h.top, State.setFrames_setFrames, State.setTop_of_frames _ hr', hr]
      rfl
    have hsame : U.sameButNew ({ U with heap := s₂.heap, slotsUsed := s₂.slotsUsed } : State) L mc ms := by
      refine ⟨?_, q2, q3, q4, q5, q6⟩
      obtain ⟨t, ht, -⟩ := State.frames_cons hr
      show ({ U with heap := s₂.heap, slotsUsed := s₂.slotsUsed } : State) = { U.setFrames U.frames with heap := s₂.heap, slotsUsed := s₂.slotsUsed }
      rw [State.setFrames_self ht]
    subst hg
    refine Or.inl ⟨v, ⟨(({ U with heap := s₂.heap, slotsUsed := s₂.slotsUsed } : State).setVm s₂.vm), Ls ++ L, c0 + mc, s0 + ms⟩,
      ⟨X.admits, X.cas, X.clock, X.frames, X.room, X.hears, X.method, X.code, (X.here.setHeapUsed s₂.heap s₂.slotsUsed).setVm hW'.alike, X.tail, State.WarmedH.trans X.warmed hW', X.limits, X.bytes, X.same.trans (hsame.setVm s.vm)⟩,
      ⟨g, mk, s₂, L, rfl, rfl, hqc, rfl, hL, rfl, rfl⟩, ?_⟩
    show Steps p.tables e below _ ((({ U with heap := s₂.heap, slotsUsed := s₂.slotsUsed } : State).setVm s₂.vm).setTop { g with pc := g.pc + len₂, stack := v.toList ++ g.stack })
    rw [← hs₂]
    exact hsteps
  · obtain ⟨e2, q2, q3, q4, q5, q6⟩ := id hsm
    have e3 : s₂ = ({ (U.calling g mk a).setFrames s₂.frames with heap := s₂.heap, slotsUsed := s₂.slotsUsed } : State).setVm s₂.vm := by
      have : s₂ = ({ s₂ with vm := (U.calling g mk a).vm } : State).setVm s₂.vm := rfl
      rw [e2] at this
      exact this
    have hf₂ : s₂.frames = .throwing q :: .java g :: U.frames.tail := hend
    have hW' : U.WarmedH s₂.vm := hW₂
    have hs₂ : s₂ = ((({ U with heap := s₂.heap, slotsUsed := s₂.slotsUsed } : State).setVm s₂.vm).setTop g).pushFrame (.throwing q) := by
      refine e3.trans ?_
      rw [hf₂, State.calling_eq h.top, State.setFrames_setFrames, State.pushFrame, State.frames_setTop _ hr', State.setTop_of_frames _ hr', State.setFrames_setFrames, hr]
      rfl
    have hsame : U.sameButNew ({ U with heap := s₂.heap, slotsUsed := s₂.slotsUsed } : State) L mc ms := by
      refine ⟨?_, q2, q3, q4, q5, q6⟩
      obtain ⟨t, ht, -⟩ := State.frames_cons hr
      show ({ U with heap := s₂.heap, slotsUsed := s₂.slotsUsed } : State) = { U.setFrames U.frames with heap := s₂.heap, slotsUsed := s₂.slotsUsed }
      rw [State.setFrames_self ht]
    subst hg
    refine Or.inr ⟨q, ⟨(({ U with heap := s₂.heap, slotsUsed := s₂.slotsUsed } : State).setVm s₂.vm), Ls ++ L, c0 + mc, s0 + ms⟩,
      ⟨X.admits, X.cas, X.clock, X.frames, X.room, X.hears, X.method, X.code, (X.here.setHeapUsed s₂.heap s₂.slotsUsed).setVm hW'.alike, X.tail, State.WarmedH.trans X.warmed hW', X.limits, X.bytes, X.same.trans (hsame.setVm s.vm)⟩,
      ⟨g, mk, s₂, L, E, ce, rfl, rfl, hx, hce, hcv, hcl, rfl, hL, rfl, rfl⟩, ?_⟩
    show Steps p.tables e below _ (((({ U with heap := s₂.heap, slotsUsed := s₂.slotsUsed } : State).setVm s₂.vm).setTop g).pushFrame (.throwing q))
    rw [← hs₂]
    exact hsteps
end Payer
section Calls
variable {p : Program} {l : Launch} {e : Env} {R : Room} {s : State} {m : MethodId} {args : Array Value} {below : List Frame} {meth : Method} {c : Code} {T : State} {locs : List Loc} {cells slots : Nat}
theorem vx_callV (X : Stand p l e R s m args below meth c T locs cells slots) (hexec : p.tables.exec = Jvm.exec) {own C : String} {index : Nat} {y : MethodName} {bytes : ByteArray} {maxL : Nat} {ret : Option FieldType}
    (hown : s.vm.findClass own = some m.cls) (hlink : (Cond.methodLink own index y).before args s = true) (hinst : (Cond.instanceMethod y).before args s = true) (hsel : (Cond.selects C y y).before args s = true)
    (hcode : (Cond.code y bytes maxL ret).before args s = true) (hy : y.cls ≠ "java/lang/invoke/MethodHandle" ∧ y.cls ≠ "java/lang/invoke/VarHandle")
    {W9 : Nat} {Pre : Pt → Array Value → Prop} {Post : Pt → Array Value → Option Value → Pt → Prop} {PostX : Pt → Array Value → Addr → Pt → Prop} (hK : vx_Back l R p e below s args y 3 W9 Pre Post PostX)
    {b : Addr} {cellB : Cell} (hcell : T.heap[b]? = some cellB) (hobj : cellB.vm.isStatics = false) (hcls : s.vm.findClass C = some cellB.cls)
    {g : JFrame} (hg : g.method = m) (hsize : g.locals.size = c.maxLocals) {argsL rest : List Value} (hlen : ∀ sig, parseMethodDescriptor y.desc = some sig → argsL.length = sig.parameters.length)
    (hstack : g.stack = argsL.reverse ++ .ref b :: rest) (hW : 2 * g.monitorRoom + (rest.map fun v => v.category).sum ≤ W9) (hdg : decode c.code g.pc = .ok (.invokevirtual index, 3))
    (hpre : ∀ vm₁, s.WarmedH vm₁ → Pre ⟨T.setVm vm₁, locs, cells, slots⟩ (Value.ref b :: argsL).toArray) :
    (∃ (v : Option Value) (vm₁ : Vm) (B : Pt), s.WarmedH vm₁ ∧ Stand p l e R s m args below meth c B.U B.locs B.cells B.slots ∧ Post ⟨T.setVm vm₁, locs, cells, slots⟩ (Value.ref b :: argsL).toArray v B ∧
      ∀ target, Steps p.tables e below (B.U.setTop { g with pc := g.pc + 3, stack := v.toList ++ rest }) target → Steps p.tables e below (T.setTop g) target) ∨
    (∃ (q : Addr) (vm₁ : Vm) (B : Pt), s.WarmedH vm₁ ∧ Stand p l e R s m args below meth c B.U B.locs B.cells B.slots ∧ PostX ⟨T.setVm vm₁, locs, cells, slots⟩ (Value.ref b :: argsL).toArray q B ∧
      Steps p.tables e below (T.setTop g) ((B.U.setTop { g with stack := rest }).pushFrame (.throwing q))) := by
  obtain ⟨mk, methM, hnamed, hmethM, hstM, habM⟩ := Cond.instanceMethod_spec hinst
  obtain ⟨methM', cM, hmethM', -, -, -, -, -, -, hsigM⟩ := Cond.code_spec hnamed hcode
  cases hmethM.symm.trans hmethM'
  obtain ⟨c2, r2, m2, q1, q2, q3, q4, kP, hkP, hkPi⟩ := Cond.selects_spec hsel
  cases hcls.symm.trans q1
  cases (State.methodFound?_of_named hnamed hy).symm.trans q2
  cases hnamed.symm.trans q3
  have hselP : selectMethod e.platform s.vm cellB.cls mk = .method mk := by rw [Launch.admits_selectMethod X.admits]; exact q4
  obtain ⟨vm₁, X₁, hstep₁⟩ := X.invokevirtual hexec hown hlink hnamed hmethM hstM hkP hkPi hy (a := b) (cell := cellB) hcell
    (fun z h => by rw [h] at hobj; cases hobj) hselP hmethM habM hkP hkPi (g := g) hg (argsL := argsL) (rest := rest) (hlen _ hsigM) hstack hdg
  rcases hK m meth c ⟨T.setVm vm₁, locs, cells, slots⟩ { g with stack := rest } (.invokevirtual index) mk (Value.ref b :: argsL).toArray X₁ hg hsize hdg hW (X₁.named hnamed) (hpre vm₁ X₁.warmed) with ⟨v, B, X', hpost, hsteps⟩ | ⟨q, B, X', hpost, hsteps⟩
  · exact Or.inl ⟨v, vm₁, B, X₁.warmed, X', hpost, fun target h => hstep₁ _ fun acts => by rw [doInvoke_state]; exact hsteps.trans h⟩
  · exact Or.inr ⟨q, vm₁, B, X₁.warmed, X', hpost, hstep₁ _ fun acts => by rw [doInvoke_state]; exact hsteps⟩
theorem vx_callS (X : Stand p l e R s m args below meth c T locs cells slots) (hexec : p.tables.exec = Jvm.exec) {own : String} {index : Nat} {y : MethodName} {bytes : ByteArray} {maxL : Nat} {ret : Option FieldType}
    (hown : s.vm.findClass own = some m.cls) (hlink : (Cond.methodLink own index y).before args s = true) (hstat : (Cond.static y).before args s = true) (hinit : (Cond.initialized y.cls).before args s = true)
    (hcode : (Cond.code y bytes maxL ret).before args s = true) (hy : y.cls ≠ "java/lang/invoke/MethodHandle" ∧ y.cls ≠ "java/lang/invoke/VarHandle")
    {W9 : Nat} {Pre : Pt → Array Value → Prop} {Post : Pt → Array Value → Option Value → Pt → Prop} {PostX : Pt → Array Value → Addr → Pt → Prop} (hK : vx_Back l R p e below s args y 3 W9 Pre Post PostX)
    {g : JFrame} (hg : g.method = m) (hsize : g.locals.size = c.maxLocals) {argsL rest : List Value} (hlen : ∀ sig, parseMethodDescriptor y.desc = some sig → argsL.length = sig.parameters.length)
    (hstack : g.stack = argsL.reverse ++ rest) (hW : 2 * g.monitorRoom + (rest.map fun v => v.category).sum ≤ W9) (hdg : decode c.code g.pc = .ok (.invokestatic index, 3))
    (hpre : ∀ vm₁, s.WarmedH vm₁ → Pre ⟨T.setVm vm₁, locs, cells, slots⟩ argsL.toArray) :
    (∃ (v : Option Value) (vm₁ : Vm) (B : Pt), s.WarmedH vm₁ ∧ Stand p l e R s m args below meth c B.U B.locs B.cells B.slots ∧ Post ⟨T.setVm vm₁, locs, cells, slots⟩ argsL.toArray v B ∧
      ∀ target, Steps p.tables e below (B.U.setTop { g with pc := g.pc + 3, stack := v.toList ++ rest }) target → Steps p.tables e below (T.setTop g) target) ∨
    (∃ (q : Addr) (vm₁ : Vm) (B : Pt), s.WarmedH vm₁ ∧ Stand p l e R s m args below meth c B.U B.locs B.cells B.slots ∧ PostX ⟨T.setVm vm₁, locs, cells, slots⟩ argsL.toArray q B ∧
      Steps p.tables e below (T.setTop g) ((B.U.setTop { g with stack := rest }).pushFrame (.throwing q))) := by
  obtain ⟨mk, hnamed⟩ := Cond.code_named hcode
  obtain ⟨methM, cM, hmethM, -, -, -, -, -, -, hsigM⟩ := Cond.code_spec hnamed hcode
  have hstatic : methM.isStatic = true := Cond.static_spec hnamed hmethM hstat
  obtain ⟨kP, hkP, -⟩ := className_of_methodNamed hnamed
  have hinitP : kP.init = .initialized := Cond.initialized_spec (findClass_of_methodNamed hnamed) hkP hinit
  obtain ⟨vm₁, X₁, hstep₁⟩ := X.invokestatic hexec hown hlink hnamed hmethM hstatic hkP hinitP hy (g := g) hg (argsL := argsL) (rest := rest) (hlen _ hsigM) hstack hdg
  rcases hK m meth c ⟨T.setVm vm₁, locs, cells, slots⟩ { g with stack := rest } (.invokestatic index) mk argsL.toArray X₁ hg hsize hdg hW (X₁.named hnamed) (hpre vm₁ X₁.warmed) with ⟨v, B, X', hpost, hsteps⟩ | ⟨q, B, X', hpost, hsteps⟩
  · exact Or.inl ⟨v, vm₁, B, X₁.warmed, X', hpost, fun target h => hstep₁ _ fun acts => by rw [doInvoke_state]; exact hsteps.trans h⟩
  · exact Or.inr ⟨q, vm₁, B, X₁.warmed, X', hpost, hstep₁ _ fun acts => by rw [doInvoke_state]; exact hsteps⟩
end Calls
theorem vx_cls {s : State} {T : State} {vm₁ : Vm} {E : String} {k : ClassId} (hW : s.WarmedH vm₁) (h : (T.setVm vm₁).vm.findClass E = some k) : s.vm.findClass E = some k := by
  have h1 : vm₁.findClass E = some k := h
  rw [hW.alike.findClass] at h1
  exact h1
/-- the method's frame g, with q thrown over it -/
def vx_W (p : Program) (l : Launch) (e : Env) (R : Room) (s : State) (m : MethodId) (args : Array Value) (below : List Frame) (meth : Method) (c : Code) (H : Heap) (locs : List Loc) (cells slots : Nat) (Q : State → Prop) (g : JFrame) (q : Addr) : Prop :=
  ∀ T : State, T.heap = H → Stand p l e R s m args below meth c T locs cells slots → ∃ t, Steps p.tables e below ((T.setTop g).pushFrame (.throwing q)) t ∧ Q t
def vx_Run (p : Program) (l : Launch) (e : Env) (R : Room) (s : State) (m : MethodId) (args : Array Value) (below : List Frame) (meth : Method) (c : Code) (H : Heap) (locs : List Loc) (cells slots mc ms : Nat) (g : JFrame) (rest : List Value) (Qa : State → Outcome → State → Prop) (XC : String → State → State → Prop) (free : Addr → Prop) : Prop :=
  ∀ T : State, T.heap = H → Stand p l e R s m args below meth c T locs cells slots →
    (∃ (v : Option Value) (st₀ t T' : State) (L : List Loc), st₀.heap = H ∧ Stand p l e R s m args below meth c T' (locs ++ L) (cells + mc) (slots + ms) ∧ (∀ q ∈ L, free q.base) ∧ T'.heap = t.heap ∧ T'.vm = t.vm ∧ Qa st₀ (.returned v) t ∧
      Goes p e below T g T' { g with pc := g.pc + 3, stack := v.toList ++ rest }) ∨
    (∃ (q : Addr) (st₀ t T' : State) (L : List Loc) (E : String) (ce : Cell), st₀.heap = H ∧ Stand p l e R s m args below meth c T' (locs ++ L) (cells + mc) (slots + ms) ∧ (∀ z ∈ L, free z.base) ∧ T'.heap = t.heap ∧ T'.vm = t.vm ∧ XC E st₀ t ∧ t.heap[q]? = some ce ∧ ce.vm = .none ∧ s.vm.findClass E = some ce.cls ∧
      Steps p.tables e below (T.setTop g) ((T'.setTop { g with stack := rest }).pushFrame (.throwing q)))
def vx_X {S : Type} (px : S → Prop) (B : String → S → State → Prop) (A : Nat → Prop) : String → State → State → Prop := fun E st t => ∃ u : S, px u ∧ B E u t ∧ va_F A st t
section Runs
variable {p : Program} {l : Launch} {e : Env} {R : Room} {s : State} {m : MethodId} {args : Array Value} {below : List Frame} {meth : Method} {c : Code} {H : Heap} {locs : List Loc} {cells slots : Nat}
variable {y : MethodName} {bytes cc : ByteArray} {maxL nL mc ms n index : Nat} {ret : Option FieldType} {ws : List Cond} {rm : Room} {Pc : Array Value → State → Prop} {Qc : Array Value → State → Outcome → State → Prop} {XC : String → State → State → Prop} {free : Addr → Prop} {Ts : List Cond} {own C : String} {b : Addr} {As rest : List Value} {g : JFrame}
theorem vx_callBack (cb : CallB R s args own index y bytes maxL ret ws rm mc ms n) (hM : vx_Met l y ws rm Pc Qc XC mc ms free) (hbl : FrameBlind Pc) : vx_Back l R p e below s args y 3 8 (PreOf R mc ms Pc) (PostOf Qc mc ms free) (vx_Post XC mc ms free) := by
  obtain ⟨hrc, hrs, hfr, hlo, hws, hcw, -, hini, -⟩ := cb
  exact vx_back (bytes := bytes) (maxL := maxL) (ret := ret) hM hbl hrc hrs hfr hlo hws hcw (fun a' U hW => word_at hW (Or.inl (by first | rfl | simp [Cond.onTables, Cond.keeps, Cond.steady])) hini)
theorem vx_runV (S : CallFix p m c cc nL s args Ts own) (hM : vx_Met l y ws rm Pc Qc XC mc ms free) (cw : CallW R s args own C index y bytes maxL ret ws rm mc ms n) (hp : PreV s H C b Pc As)
    (hg : g.method = m) (hn : As.length = n) (hsize : g.locals.size = nL) (hstack : g.stack = As.reverse ++ .ref b :: rest) (hW : 2 * g.monitorRoom + (rest.map fun v => v.category).sum ≤ 8) (hdg : decode cc g.pc = .ok (.invokevirtual index, 3)) (hf : cells + mc ≤ R.cells ∧ slots + ms ≤ R.slots) :
    vx_Run p l e R s m args below meth c H locs cells slots mc ms g rest (Qc (Value.ref b :: As).toArray) XC free := by
  have hK : vx_Back l R p e below s args y 3 8 (PreOf R mc ms Pc) (PostOf Qc mc ms free) (vx_Post XC mc ms free) := vx_callBack cw.1 hM hp.1
  obtain ⟨⟨-, -, -, -, -, -, hcode, -, hy, hlen, hl⟩, hin, hse⟩ := cw
  obtain ⟨hx, hb, hml, ho, -⟩ := S
  obtain ⟨-, ⟨cellB, hcB, hoB, hclB⟩, hPc⟩ := hp
  intro T hT X
  rcases vx_callV X hx (C := C) (bytes := bytes) (maxL := maxL) (ret := ret) ho hl hin hse hcode hy hK (by rw [hT]; exact hcB) hoB hclB hg (hsize.trans hml.symm) (argsL := As) (rest := rest) (fun sig h => hn.trans (hlen sig h)) hstack hW (by rw [hb]; exact hdg)
    (fun vm₁ hW₁ => ⟨hf.1, hf.2, hPc (T.setVm vm₁) hT hW₁⟩) with ⟨v, vm₁, ⟨U', l2, c2, s2⟩, hW₁, X', ⟨g', mk, t, L, e1, e2, hq, h1, hL, h2, h3⟩, st⟩ | ⟨q, vm₁, ⟨U', l2, c2, s2⟩, hW₁, X', ⟨g', mk, t, L, E, ce, e1, e2, hq, hce, hcv, hcl, h1, hL, h2, h3⟩, st⟩
  · dsimp only [Pt.U, Pt.locs, Pt.cells, Pt.slots] at X' e1 e2 h1 h2 h3 st
    subst h1; subst h2; subst h3
    exact Or.inl ⟨v, (T.setVm vm₁).calling g' mk (Value.ref b :: As).toArray, t, U', L, hT, X', hL, e1, e2, hq, st⟩
  · dsimp only [Pt.U, Pt.locs, Pt.cells, Pt.slots] at X' e1 e2 h1 h2 h3 st hcl
    subst h1; subst h2; subst h3
    exact Or.inr ⟨q, (T.setVm vm₁).calling g' mk (Value.ref b :: As).toArray, t, U', L, E, ce, hT, X', hL, e1, e2, hq, hce, hcv, vx_cls hW₁ hcl, st⟩
theorem vx_runS (S : CallFix p m c cc nL s args Ts own) (hM : vx_Met l y ws rm Pc Qc XC mc ms free) (cw : CallB R s args own index y bytes maxL ret ws rm mc ms n ∧ (Cond.static y).before args s = true) (hp : PreS s H Pc As)
    (hg : g.method = m) (hn : As.length = n) (hsize : g.locals.size = nL) (hstack : g.stack = As.reverse ++ rest) (hW : 2 * g.monitorRoom + (rest.map fun v => v.category).sum ≤ 8) (hdg : decode cc g.pc = .ok (.invokestatic index, 3)) (hf : cells + mc ≤ R.cells ∧ slots + ms ≤ R.slots) :
    vx_Run p l e R s m args below meth c H locs cells slots mc ms g rest (Qc As.toArray) XC free := by
  have hK : vx_Back l R p e below s args y 3 8 (PreOf R mc ms Pc) (PostOf Qc mc ms free) (vx_Post XC mc ms free) := vx_callBack cw.1 hM hp.1
  obtain ⟨⟨-, -, -, -, -, -, hcode, hini, hy, hlen, hl⟩, hstt⟩ := cw
  obtain ⟨hx, hb, hml, ho, -⟩ := S
  intro T hT X
  rcases vx_callS X hx (bytes := bytes) (maxL := maxL) (ret := ret) ho hl hstt hini hcode hy hK hg (hsize.trans hml.symm) (argsL := As) (rest := rest) (fun sig h => hn.trans (hlen sig h)) hstack hW (by rw [hb]; exact hdg)
    (fun vm₁ hW₁ => ⟨hf.1, hf.2, hp.2 (T.setVm vm₁) hT hW₁⟩) with ⟨v, vm₁, ⟨U', l2, c2, s2⟩, hW₁, X', ⟨g', mk, t, L, e1, e2, hq, h1, hL, h2, h3⟩, st⟩ | ⟨q, vm₁, ⟨U', l2, c2, s2⟩, hW₁, X', ⟨g', mk, t, L, E, ce, e1, e2, hq, hce, hcv, hcl, h1, hL, h2, h3⟩, st⟩
  · dsimp only [Pt.U, Pt.locs, Pt.cells, Pt.slots] at X' e1 e2 h1 h2 h3 st
    subst h1; subst h2; subst h3
    exact Or.inl ⟨v, (T.setVm vm₁).calling g' mk As.toArray, t, U', L, hT, X', hL, e1, e2, hq, st⟩
  · dsimp only [Pt.U, Pt.locs, Pt.cells, Pt.slots] at X' e1 e2 h1 h2 h3 st hcl
    subst h1; subst h2; subst h3
    exact Or.inr ⟨q, (T.setVm vm₁).calling g' mk As.toArray, t, U', L, E, ce, hT, X', hL, e1, e2, hq, hce, hcv, vx_cls hW₁ hcl, st⟩
end Runs
section Rows
variable {p : Program} {l : Launch} {e : Env} {R : Room} {s : State} {m : MethodId} {args : Array Value} {below : List Frame} {meth : Method} {c : Code} {H : Heap} {locs : List Loc} {cells slots : Nat} {Q : State → Prop}
variable {mc ms : Nat} {free : Addr → Prop} {A0 A1 : Nat → Prop} {H0 : Heap} {a : Array Value} {pc : Nat} {ls : Array Slot} {st0 rest : List Value}
theorem vx_keep {st₀ t T' : State} {L : List Loc} (h0 : st₀.heap = H) (e1 : T'.heap = t.heap) (hS : va_S A0 H0 H locs) (hA : ∀ q, q < H.size → A1 q → A0 q) (hf : ∀ q, free q → A0 q) (hL : ∀ q ∈ L, free q.base) (hF : va_F A1 st₀ t) :
    H.size ≤ T'.heap.size ∧ (∀ q : Nat, q < H.size → ¬ A1 q → T'.heap[q]? = H[q]?) ∧ va_S A0 H0 T'.heap (locs ++ L) := by
  obtain ⟨hz, hk⟩ := hF
  rw [h0] at hz hk
  exact ⟨by rw [e1]; exact hz, fun q h1 h2 => by rw [e1]; exact hk q h1 h2,
    ⟨Nat.le_trans hS.1 (by rw [e1]; exact hz), fun q h1 h2 => by rw [e1, hk q (Nat.lt_of_lt_of_le h1 hS.1) (fun z => h2 (hA q (Nat.lt_of_lt_of_le h1 hS.1) z))]; exact hS.2.1 q h1 h2, fun q hq => by
      rcases List.mem_append.mp hq with h | h
      · exact hS.2.2 q h
      · exact hf _ (hL q h)⟩⟩
theorem vx_calli {S SX : Type} {post : Int32 → S → Prop} {px : SX → Prop} {B : S → State → Prop} {BX : String → SX → State → Prop} {AX : Nat → Prop} (hr : vx_Run p l e R s m args below meth c H locs cells slots mc ms (F0 m pc ls st0) rest (va_Qi post B A1 a) (vx_X px BX AX) free) (hS : va_S A0 H0 H locs) (hA : ∀ q, q < H.size → A1 q → A0 q) (hf : ∀ q, free q → A0 q) (hAX : ∀ q, q < H.size → AX q → A0 q)
    (kx : ∀ (E : String) (ce : Cell) (q9 : Addr) (u : SX) (t : State) (H1 : Heap) (locs1 : List Loc), t.heap = H1 → s.vm.Alike t.vm → px u → BX E u t → H.size ≤ H1.size → (∀ q : Nat, q < H.size → ¬ AX q → H1[q]? = H[q]?) → va_S A0 H0 H1 locs1 → H1[q9]? = some ce → ce.vm = .none → s.vm.findClass E = some ce.cls → vx_W p l e R s m args below meth c H1 locs1 (cells + mc) (slots + ms) Q (F0 m pc ls rest) q9)
    (kk : ∀ (r : Int32) (u : S) (t : State) (H1 : Heap) (locs1 : List Loc), t.heap = H1 → s.vm.Alike t.vm → post r u → B u t → H.size ≤ H1.size → (∀ q : Nat, q < H.size → ¬ A1 q → H1[q]? = H[q]?) → va_S A0 H0 H1 locs1 → W p l e R s m args below meth c H1 locs1 (cells + mc) (slots + ms) Q (F0 m (pc + 3) ls (.int r :: rest))) : W p l e R s m args below meth c H locs cells slots Q (F0 m pc ls st0) := by
  intro T hT X
  rcases hr T hT X with ⟨v, st₀, t, T', L, h0, X', hL, e1, e2, ⟨⟨r, u, hv, hp, hb⟩, hF⟩, st⟩ | ⟨q, st₀, t, T', L, E, ce, h0, X', hL, e1, e2, ⟨u, hp, hb, hF⟩, hce, hcv, hcl, st⟩
  · cases hv
    obtain ⟨k1, k2, k3⟩ := vx_keep h0 e1 hS hA hf hL hF
    obtain ⟨t2, a1, b1⟩ := kk r u t T'.heap (locs ++ L) e1.symm (by rw [← e2]; exact X'.warmed.alike) hp hb k1 k2 k3 T' rfl X'
    exact ⟨t2, st t2 a1, b1⟩
  · obtain ⟨k1, k2, k3⟩ := vx_keep h0 e1 hS hAX hf hL hF
    obtain ⟨t2, a1, b1⟩ := kx E ce q u t T'.heap (locs ++ L) e1.symm (by rw [← e2]; exact X'.warmed.alike) hp hb k1 k2 k3 (by rw [e1]; exact hce) hcv hcl T' rfl X'
    exact ⟨t2, st.trans a1, b1⟩
theorem vx_calll {S SX : Type} {post : Int64 → S → Prop} {px : SX → Prop} {B : S → State → Prop} {BX : String → SX → State → Prop} {AX : Nat → Prop} (hr : vx_Run p l e R s m args below meth c H locs cells slots mc ms (F0 m pc ls st0) rest (va_Ql post B A1 a) (vx_X px BX AX) free) (hS : va_S A0 H0 H locs) (hA : ∀ q, q < H.size → A1 q → A0 q) (hf : ∀ q, free q → A0 q) (hAX : ∀ q, q < H.size → AX q → A0 q)
    (kx : ∀ (E : String) (ce : Cell) (q9 : Addr) (u : SX) (t : State) (H1 : Heap) (locs1 : List Loc), t.heap = H1 → s.vm.Alike t.vm → px u → BX E u t → H.size ≤ H1.size → (∀ q : Nat, q < H.size → ¬ AX q → H1[q]? = H[q]?) → va_S A0 H0 H1 locs1 → H1[q9]? = some ce → ce.vm = .none → s.vm.findClass E = some ce.cls → vx_W p l e R s m args below meth c H1 locs1 (cells + mc) (slots + ms) Q (F0 m pc ls rest) q9)
    (kk : ∀ (r : Int64) (u : S) (t : State) (H1 : Heap) (locs1 : List Loc), t.heap = H1 → s.vm.Alike t.vm → post r u → B u t → H.size ≤ H1.size → (∀ q : Nat, q < H.size → ¬ A1 q → H1[q]? = H[q]?) → va_S A0 H0 H1 locs1 → W p l e R s m args below meth c H1 locs1 (cells + mc) (slots + ms) Q (F0 m (pc + 3) ls (.long r :: rest))) : W p l e R s m args below meth c H locs cells slots Q (F0 m pc ls st0) := by
  intro T hT X
  rcases hr T hT X with ⟨v, st₀, t, T', L, h0, X', hL, e1, e2, ⟨⟨r, u, hv, hp, hb⟩, hF⟩, st⟩ | ⟨q, st₀, t, T', L, E, ce, h0, X', hL, e1, e2, ⟨u, hp, hb, hF⟩, hce, hcv, hcl, st⟩
  · cases hv
    obtain ⟨k1, k2, k3⟩ := vx_keep h0 e1 hS hA hf hL hF
    obtain ⟨t2, a1, b1⟩ := kk r u t T'.heap (locs ++ L) e1.symm (by rw [← e2]; exact X'.warmed.alike) hp hb k1 k2 k3 T' rfl X'
    exact ⟨t2, st t2 a1, b1⟩
  · obtain ⟨k1, k2, k3⟩ := vx_keep h0 e1 hS hAX hf hL hF
    obtain ⟨t2, a1, b1⟩ := kx E ce q u t T'.heap (locs ++ L) e1.symm (by rw [← e2]; exact X'.warmed.alike) hp hb k1 k2 k3 (by rw [e1]; exact hce) hcv hcl T' rfl X'
    exact ⟨t2, st.trans a1, b1⟩
theorem vx_callf {S SX : Type} {post : UInt32 → S → Prop} {px : SX → Prop} {B : S → State → Prop} {BX : String → SX → State → Prop} {AX : Nat → Prop} (hr : vx_Run p l e R s m args below meth c H locs cells slots mc ms (F0 m pc ls st0) rest (va_Qf post B A1 a) (vx_X px BX AX) free) (hS : va_S A0 H0 H locs) (hA : ∀ q, q < H.size → A1 q → A0 q) (hf : ∀ q, free q → A0 q) (hAX : ∀ q, q < H.size → AX q → A0 q)
    (kx : ∀ (E : String) (ce : Cell) (q9 : Addr) (u : SX) (t : State) (H1 : Heap) (locs1 : List Loc), t.heap = H1 → s.vm.Alike t.vm → px u → BX E u t → H.size ≤ H1.size → (∀ q : Nat, q < H.size → ¬ AX q → H1[q]? = H[q]?) → va_S A0 H0 H1 locs1 → H1[q9]? = some ce → ce.vm = .none → s.vm.findClass E = some ce.cls → vx_W p l e R s m args below meth c H1 locs1 (cells + mc) (slots + ms) Q (F0 m pc ls rest) q9)
    (kk : ∀ (r : UInt32) (u : S) (t : State) (H1 : Heap) (locs1 : List Loc), t.heap = H1 → s.vm.Alike t.vm → post r u → B u t → H.size ≤ H1.size → (∀ q : Nat, q < H.size → ¬ A1 q → H1[q]? = H[q]?) → va_S A0 H0 H1 locs1 → W p l e R s m args below meth c H1 locs1 (cells + mc) (slots + ms) Q (F0 m (pc + 3) ls (.float r :: rest))) : W p l e R s m args below meth c H locs cells slots Q (F0 m pc ls st0) := by
  intro T hT X
  rcases hr T hT X with ⟨v, st₀, t, T', L, h0, X', hL, e1, e2, ⟨⟨r, u, hv, hp, hb⟩, hF⟩, st⟩ | ⟨q, st₀, t, T', L, E, ce, h0, X', hL, e1, e2, ⟨u, hp, hb, hF⟩, hce, hcv, hcl, st⟩
  · cases hv
    obtain ⟨k1, k2, k3⟩ := vx_keep h0 e1 hS hA hf hL hF
    obtain ⟨t2, a1, b1⟩ := kk r u t T'.heap (locs ++ L) e1.symm (by rw [← e2]; exact X'.warmed.alike) hp hb k1 k2 k3 T' rfl X'
    exact ⟨t2, st t2 a1, b1⟩
  · obtain ⟨k1, k2, k3⟩ := vx_keep h0 e1 hS hAX hf hL hF
    obtain ⟨t2, a1, b1⟩ := kx E ce q u t T'.heap (locs ++ L) e1.symm (by rw [← e2]; exact X'.warmed.alike) hp hb k1 k2 k3 (by rw [e1]; exact hce) hcv hcl T' rfl X'
    exact ⟨t2, st.trans a1, b1⟩
theorem vx_calld {S SX : Type} {post : UInt64 → S → Prop} {px : SX → Prop} {B : S → State → Prop} {BX : String → SX → State → Prop} {AX : Nat → Prop} (hr : vx_Run p l e R s m args below meth c H locs cells slots mc ms (F0 m pc ls st0) rest (va_Qd post B A1 a) (vx_X px BX AX) free) (hS : va_S A0 H0 H locs) (hA : ∀ q, q < H.size → A1 q → A0 q) (hf : ∀ q, free q → A0 q) (hAX : ∀ q, q < H.size → AX q → A0 q)
    (kx : ∀ (E : String) (ce : Cell) (q9 : Addr) (u : SX) (t : State) (H1 : Heap) (locs1 : List Loc), t.heap = H1 → s.vm.Alike t.vm → px u → BX E u t → H.size ≤ H1.size → (∀ q : Nat, q < H.size → ¬ AX q → H1[q]? = H[q]?) → va_S A0 H0 H1 locs1 → H1[q9]? = some ce → ce.vm = .none → s.vm.findClass E = some ce.cls → vx_W p l e R s m args below meth c H1 locs1 (cells + mc) (slots + ms) Q (F0 m pc ls rest) q9)
    (kk : ∀ (r : UInt64) (u : S) (t : State) (H1 : Heap) (locs1 : List Loc), t.heap = H1 → s.vm.Alike t.vm → post r u → B u t → H.size ≤ H1.size → (∀ q : Nat, q < H.size → ¬ A1 q → H1[q]? = H[q]?) → va_S A0 H0 H1 locs1 → W p l e R s m args below meth c H1 locs1 (cells + mc) (slots + ms) Q (F0 m (pc + 3) ls (.double r :: rest))) : W p l e R s m args below meth c H locs cells slots Q (F0 m pc ls st0) := by
  intro T hT X
  rcases hr T hT X with ⟨v, st₀, t, T', L, h0, X', hL, e1, e2, ⟨⟨r, u, hv, hp, hb⟩, hF⟩, st⟩ | ⟨q, st₀, t, T', L, E, ce, h0, X', hL, e1, e2, ⟨u, hp, hb, hF⟩, hce, hcv, hcl, st⟩
  · cases hv
    obtain ⟨k1, k2, k3⟩ := vx_keep h0 e1 hS hA hf hL hF
    obtain ⟨t2, a1, b1⟩ := kk r u t T'.heap (locs ++ L) e1.symm (by rw [← e2]; exact X'.warmed.alike) hp hb k1 k2 k3 T' rfl X'
    exact ⟨t2, st t2 a1, b1⟩
  · obtain ⟨k1, k2, k3⟩ := vx_keep h0 e1 hS hAX hf hL hF
    obtain ⟨t2, a1, b1⟩ := kx E ce q u t T'.heap (locs ++ L) e1.symm (by rw [← e2]; exact X'.warmed.alike) hp hb k1 k2 k3 (by rw [e1]; exact hce) hcv hcl T' rfl X'
    exact ⟨t2, st.trans a1, b1⟩
theorem vx_callv {S SX : Type} {post : S → Prop} {px : SX → Prop} {B : S → State → Prop} {BX : String → SX → State → Prop} {AX : Nat → Prop} (hr : vx_Run p l e R s m args below meth c H locs cells slots mc ms (F0 m pc ls st0) rest (va_Qv post B A1 a) (vx_X px BX AX) free) (hS : va_S A0 H0 H locs) (hA : ∀ q, q < H.size → A1 q → A0 q) (hf : ∀ q, free q → A0 q) (hAX : ∀ q, q < H.size → AX q → A0 q)
    (kx : ∀ (E : String) (ce : Cell) (q9 : Addr) (u : SX) (t : State) (H1 : Heap) (locs1 : List Loc), t.heap = H1 → s.vm.Alike t.vm → px u → BX E u t → H.size ≤ H1.size → (∀ q : Nat, q < H.size → ¬ AX q → H1[q]? = H[q]?) → va_S A0 H0 H1 locs1 → H1[q9]? = some ce → ce.vm = .none → s.vm.findClass E = some ce.cls → vx_W p l e R s m args below meth c H1 locs1 (cells + mc) (slots + ms) Q (F0 m pc ls rest) q9)
    (kk : ∀ (u : S) (t : State) (H1 : Heap) (locs1 : List Loc), t.heap = H1 → s.vm.Alike t.vm → post u → B u t → H.size ≤ H1.size → (∀ q : Nat, q < H.size → ¬ A1 q → H1[q]? = H[q]?) → va_S A0 H0 H1 locs1 → W p l e R s m args below meth c H1 locs1 (cells + mc) (slots + ms) Q (F0 m (pc + 3) ls (rest))) : W p l e R s m args below meth c H locs cells slots Q (F0 m pc ls st0) := by
  intro T hT X
  rcases hr T hT X with ⟨v, st₀, t, T', L, h0, X', hL, e1, e2, ⟨⟨u, hv, hp, hb⟩, hF⟩, st⟩ | ⟨q, st₀, t, T', L, E, ce, h0, X', hL, e1, e2, ⟨u, hp, hb, hF⟩, hce, hcv, hcl, st⟩
  · cases hv
    obtain ⟨k1, k2, k3⟩ := vx_keep h0 e1 hS hA hf hL hF
    obtain ⟨t2, a1, b1⟩ := kk u t T'.heap (locs ++ L) e1.symm (by rw [← e2]; exact X'.warmed.alike) hp hb k1 k2 k3 T' rfl X'
    exact ⟨t2, st t2 a1, b1⟩
  · obtain ⟨k1, k2, k3⟩ := vx_keep h0 e1 hS hAX hf hL hF
    obtain ⟨t2, a1, b1⟩ := kx E ce q u t T'.heap (locs ++ L) e1.symm (by rw [← e2]; exact X'.warmed.alike) hp hb k1 k2 k3 (by rw [e1]; exact hce) hcv hcl T' rfl X'
    exact ⟨t2, st.trans a1, b1⟩
/-- caught by the row x of this method's table; the rows ahead don't take it -/
theorem vx_catch {own name : String} {E : String} {ce : Cell} {q : Addr} (hown : s.vm.findClass own = some m.cls) (pre : List ExceptionTableEntry) (x : ExceptionTableEntry) (suf : List ExceptionTableEntry) (hsplit : c.exceptionTable.toList = pre ++ x :: suf)
    (hpass : ∀ z ∈ pre, covers z pc = false ∨ (z.catchType ≠ 0 ∧ ∃ nm : String, (Cond.classLink own z.catchType nm).before args s = true ∧ va_Nc E nm s)) (hx : covers x pc = true) (h0 : x.catchType ≠ 0)
    (hlink : (Cond.classLink own x.catchType name).before args s = true) (hcast : (Cond.castable E name).before args s = true) (hcell : H[q]? = some ce) (hv : ce.vm = .none) (hcl : s.vm.findClass E = some ce.cls)
    (kk : W p l e R s m args below meth c H locs cells slots Q (F0 m x.handlerPc ls [.ref q])) : vx_W p l e R s m args below meth c H locs cells slots Q (F0 m pc ls rest) q := by
  intro T hT X
  have hpl : e.platform.magicAccessors = ({} : Platform).magicAccessors := by rw [X.admits.platform]
  obtain ⟨c3, c4, hc3, hc4, hasg⟩ := Cond.castable_spec hcast
  cases Option.some.inj (hc3.symm.trans hcl)
  obtain ⟨c5, hc5, hcl5⟩ := Cond.classLink_spec hown hlink e.platform hpl
  cases Option.some.inj (hc4.symm.trans hc5)
  obtain ⟨vm', X', st⟩ := X.thenCaughtThrough q (g := F0 m pc ls rest) rfl (Steps.refl _) (by rw [hT]; exact hcell) (by rw [hv]; rfl) (by obtain ⟨k9, h9, -⟩ := Vm.findClass_spec hcl; exact ⟨k9, h9⟩) pre x suf hsplit
    (fun z hz => by
      rcases hpass z hz with h | ⟨hz0, nm, hl1, hn1⟩
      · exact Or.inl h
      · obtain ⟨c6, hc6, hcl6⟩ := Cond.classLink_spec hown hl1 e.platform hpl
        obtain ⟨a8, b8, h1, h2, h3⟩ := hn1
        cases Option.some.inj (h1.symm.trans hcl)
        cases Option.some.inj (h2.symm.trans hc6)
        exact Or.inr ⟨hz0, _, hcl6, h3⟩) hx (Or.inr ⟨h0, c4, hcl5, hasg⟩)
  obtain ⟨t, a1, b1⟩ := kk (T.setVm vm') hT X'
  exact ⟨t, st.trans a1, b1⟩
end Rows
section Ends
variable {p : Program} {l : Launch} {e : Env} {R : Room} {s : State} {m : MethodId} {args : Array Value} {below : List Frame} {meth : Method} {c : Code} {H : Heap} {locs : List Loc} {cells slots : Nat} {Q : State → Prop}
variable {mc ms : Nat} {free : Addr → Prop} {A0 A1 : Nat → Prop} {H0 : Heap} {a : Array Value} {ls : Array Slot} {st0 rest : List Value}
variable {Qc : Array Value → State → Outcome → State → Prop} {XC : String → State → State → Prop}
/-- what a body that may throw owes at its end -/
def vx_MQ (below : List Frame) (Qc : Array Value → State → Outcome → State → Prop) (XC : String → State → State → Prop) (a : Array Value) (s : State) (mc ms : Nat) (free : Addr → Prop) : State → Prop := fun t =>
  ∃ o, t.status = .running ∧ Ended t below o ∧ vx_Q Qc XC mc ms free a s o t
theorem vx_ret {g : JFrame} {mc ms : Nat} (k : W p l e R s m args below meth c H locs cells slots (MQ below Qc args s mc ms free) g) : W p l e R s m args below meth c H locs cells slots (vx_MQ below Qc XC args s mc ms free) g := by
  intro T hT X
  obtain ⟨t, a1, o, b1, b2, b3, b4⟩ := k T hT X
  exact ⟨t, a1, o, b1, b2, Or.inl ⟨b3, b4⟩⟩
/-- not caught here: it goes on to the caller -/
theorem vx_widen {g : JFrame} {q : Addr} {k n : Nat} (h1 : cells ≤ k) (h2 : slots ≤ n) (kk : vx_W p l e R s m args below meth c H locs k n Q g q) : vx_W p l e R s m args below meth c H locs cells slots Q g q := fun T hT X => kk T hT (stand_widen X h1 h2)
theorem vx_out {pc : Nat} {E : String} {ce : Cell} {q : Addr} {mc ms : Nat} (hout : ∀ x ∈ c.exceptionTable.toList, covers x pc = false) (hlocks : meth.locks = false) (hcell : H[q]? = some ce) (hv : ce.vm = .none) (hcl : s.vm.findClass E = some ce.cls)
    (hx : ∀ t : State, t.heap = H → s.vm.Alike t.vm → XC E s t) (hf : ∀ z ∈ locs, free z.base) (hc : cells ≤ mc) (hs : slots ≤ ms) :
    vx_W p l e R s m args below meth c H locs cells slots (vx_MQ below Qc XC args s mc ms free) (F0 m pc ls rest) q := by
  intro T hT X
  obtain ⟨st1, hrun, hend, hW, hsm⟩ := X.leaveThrown q (g := F0 m pc ls rest) rfl rfl rfl hout hlocks
  have hcell9 : (T.setFrames (.throwing q :: below)).heap[q]? = some ce := by
    show T.heap[q]? = some ce
    rw [hT]; exact hcell
  exact ⟨_, st1, .threw q, hrun, hend, Or.inr ⟨q, rfl, E, ce, locs, hx _ hT hW.alike, hcell9, hv, hcl, hW, hsm.mono hc hs, hf⟩⟩
theorem vx_frame {U : State} {k n : Nat} (h : s.sameButNew ({ U with vm := s.vm } : State) locs k n) : s.heap.size ≤ U.heap.size ∧ ∀ q : Nat, q < s.heap.size → (∀ z ∈ locs, z.base ≠ q) → U.heap[q]? = s.heap[q]? := by
  obtain ⟨-, h2, -, -, -, h6⟩ := h
  refine ⟨h2, fun q hq hz => ?_⟩
  obtain ⟨c9, e1, e2, e3, e4⟩ := h6 q _ (Array.getElem?_eq_getElem hq)
  have hs : c9.slots = (s.heap[q]).slots := Array.ext_getElem? fun i => e4 i fun hm => hz _ hm rfl
  have h9 : c9 = s.heap[q] := by
    rw [hs] at e2
    exact e2
  have e5 : U.heap[q]? = some c9 := e1
  rw [e5, h9, Array.getElem?_eq_getElem hq]
/-- the words of a throw but the four that speak of the heap -/
def vx_no (w : Cond) : Bool := decide (w ≠ .isRef (.static Bundle.tN "UNASSIGNED_STACK" Bundle.steD)) && decide (w ≠ .isRef (.static Bundle.tN "SUPPRESSED_SENTINEL" Bundle.listD)) && decide (w ≠ .laysStatic Bundle.tN "UNASSIGNED_STACK" Bundle.steD) && decide (w ≠ .laysStatic Bundle.tN "SUPPRESSED_SENTINEL" Bundle.listD)
def vx_at0 (own : String) (ic : Nat) (X : String) (names : List String) : List Cond := (Bundle.ownAtoms0 own ic X names).filter vx_no
def vx_atS (own : String) (ic : Nat) (X : String) (names : List String) : List Cond := (Bundle.ownAtoms own ic X names).filter vx_no
/-- a word that the tables alone decide, or a good one -/
def vx_ot (w : Cond) : Bool := w.onTables || goodWord w
theorem vx_ot_at {args a' : Array Value} {s U : State} {w : Cond} (hW : s.WarmedH U.vm) (hvm : s.vm = U.vm) (hg : vx_ot w = true) (h : w.before args s = true) : w.before a' U = true := by
  simp only [vx_ot, Bool.or_eq_true] at hg
  rcases hg with hg | hg
  · exact va_tabs hg hvm h
  · exact word_at hW (good_of_word hg) h
/-- a list's words: the good ones out of the method's own list, the others by premises of their own -/
theorem vx_hat {args : Array Value} {s : State} {L B : List Cond} (h1 : ∀ w ∈ L.filter goodWord, w.before args s = true) (h2 : ∀ w ∈ L.filter (fun w => !goodWord w), w ∈ B) (h3 : ∀ w ∈ B, w.before args s = true) : ∀ w ∈ L, w.before args s = true := by
  intro w hw
  by_cases g : goodWord w = true
  · exact h1 w (List.mem_filter.mpr ⟨hw, g⟩)
  · refine h3 w (h2 w (List.mem_filter.mpr ⟨hw, ?_⟩))
    show (!goodWord w) = true
    cases hgw : goodWord w
    · rfl
    · exact absurd hgw g
theorem vx_c {args : Array Value} {s : State} {w : Cond} {B : List Cond} (h : w.before args s = true) (t : ∀ w ∈ B, w.before args s = true) : ∀ w' ∈ w :: B, w'.before args s = true := fun w' h' => (List.mem_cons.mp h').elim (fun e => by rw [e]; exact h) (t w')
theorem vx_n {args : Array Value} {s : State} : ∀ w ∈ ([] : List Cond), w.before args s = true := fun _ h => nomatch h
theorem vx_own {args : Array Value} {s : State} {L : List Cond} (h1 : ∀ w ∈ L.filter vx_no, w.before args s = true)
    (hU : (Cond.isRef (.static Bundle.tN "UNASSIGNED_STACK" Bundle.steD)).before args s = true) (hN : (Cond.isRef (.static Bundle.tN "SUPPRESSED_SENTINEL" Bundle.listD)).before args s = true)
    (lU : (Cond.laysStatic Bundle.tN "UNASSIGNED_STACK" Bundle.steD).before args s = true) (lN : (Cond.laysStatic Bundle.tN "SUPPRESSED_SENTINEL" Bundle.listD).before args s = true) : ∀ w ∈ L, w.before args s = true := by
  intro w hw
  by_cases e1 : w = .isRef (.static Bundle.tN "UNASSIGNED_STACK" Bundle.steD)
  · rw [e1]; exact hU
  · by_cases e2 : w = .isRef (.static Bundle.tN "SUPPRESSED_SENTINEL" Bundle.listD)
    · rw [e2]; exact hN
    · by_cases e3 : w = .laysStatic Bundle.tN "UNASSIGNED_STACK" Bundle.steD
      · rw [e3]; exact lU
      · by_cases e4 : w = .laysStatic Bundle.tN "SUPPRESSED_SENTINEL" Bundle.listD
        · rw [e4]; exact lN
        · exact h1 w (List.mem_filter.mpr ⟨hw, by unfold vx_no; rw [decide_eq_true e1, decide_eq_true e2, decide_eq_true e3, decide_eq_true e4]; rfl⟩)
/-- where a static field lies, its class's statics cell in H -/
def vx_L (C n d : String) (A : Nat → Prop) (U : State) (H : Heap) : Prop := ∃ (c : ClassId) (k : Class) (i : Nat) (f : Field) (a : Nat) (cell : Cell), U.vm.findClass C = some c ∧ U.fieldFound? C n d = some (c, k, i, f) ∧ f.isStatic = true ∧ k.statics = some a ∧ H[a]? = some cell ∧ cell.vm.isStatics = true ∧ cell.cls = c ∧ f.slot < cell.slots.size ∧ k.staticTypes[f.slot]? = some f.type ∧ ¬ A a
theorem vx_L.moved {C n d : String} {A : Nat → Prop} {u U : State} {H : Heap} (hvm : u.vm.Alike U.vm) (h : vx_L C n d A u H) : vx_L C n d A U H := by
  obtain ⟨c, k, i, f, a, cell, h1, h2, h3, h4, h5, h6, h7, h8, h9, h10⟩ := h
  obtain ⟨k', hi', he⟩ := State.fieldFound?_setVm hvm h2
  exact ⟨c, k', i, f, a, cell, by rw [hvm.findClass]; exact h1, hi', h3, by rw [he]; exact h4, h5, h6, h7, h8, by rw [he]; exact h9, h10⟩
theorem vx_L.kept {C n d : String} {A : Nat → Prop} {U : State} {H H1 : Heap} (h : vx_L C n d A U H) (hq : ∀ a : Nat, a < H.size → ¬ A a → H1[a]? = H[a]?) : vx_L C n d A U H1 := by
  obtain ⟨c, k, i, f, a, cell, h1, h2, h3, h4, h5, h6, h7, h8, h9, h10⟩ := h
  exact ⟨c, k, i, f, a, cell, h1, h2, h3, h4, by rw [hq a (Array.getElem?_eq_some_iff.mp h5).1 h10]; exact h5, h6, h7, h8, h9, h10⟩
theorem vx_L.narrow {C n d : String} {A B : Nat → Prop} {U : State} {H : Heap} (h : vx_L C n d A U H) (hAB : ∀ q, B q → A q) : vx_L C n d B U H := by
  obtain ⟨c, k, i, f, a, cell, h1, h2, h3, h4, h5, h6, h7, h8, h9, h10⟩ := h
  exact ⟨c, k, i, f, a, cell, h1, h2, h3, h4, h5, h6, h7, h8, h9, fun z => h10 (hAB _ z)⟩
theorem vx_L.word {C n d : String} {A : Nat → Prop} {s : State} {args : Array Value} (h : vx_L C n d A s s.heap) : (Cond.laysStatic C n d).before args s = true := by
  obtain ⟨c, k, i, f, a, cell, h1, h2, h3, h4, h5, h6, h7, h8, h9, -⟩ := h
  show (Cond.laysStatic C n d).holds args s none s [] = true
  exact Cond.laysStatic_of h1 h2 h3 h4 h5 h6 h7 h8 h9
/-- .. and what it holds: null or some reference -/
def vx_Zq (C n d : String) (A : Nat → Prop) (U : State) (H : Heap) : Prop := va_Zq C n d A U H ∧ vx_L C n d A U H
theorem vx_Zq.moved {C n d : String} {A : Nat → Prop} {u U : State} {H : Heap} (hvm : u.vm.Alike U.vm) (h : vx_Zq C n d A u H) : vx_Zq C n d A U H := ⟨va_Zq.moved hvm h.1, vx_L.moved hvm h.2⟩
theorem vx_Zq.kept {C n d : String} {A : Nat → Prop} {U : State} {H H1 : Heap} (h : vx_Zq C n d A U H) (hq : ∀ a : Nat, a < H.size → ¬ A a → H1[a]? = H[a]?) : vx_Zq C n d A U H1 := ⟨va_Zq.kept h.1 hq, vx_L.kept h.2 hq⟩
theorem vx_Zq.narrow {C n d : String} {A B : Nat → Prop} {U : State} {H : Heap} (h : vx_Zq C n d A U H) (hAB : ∀ q, B q → A q) : vx_Zq C n d B U H := ⟨va_Zq.narrow h.1 hAB, vx_L.narrow h.2 hAB⟩
theorem vx_Zqof {args : Array Value} {s : State} {C n d : String} {A : Nat → Prop} (hl : (Cond.laysStatic C n d).before args s = true) (hini : (Cond.initialized C).before args s = true) (h : (Cond.isRef (.static C n d)).before args s = true) (hA : ∀ a : Nat, a < s.heap.size → ¬ A a) : vx_Zq C n d A s s.heap := by
  refine ⟨va_Zqof hl hini h hA, ?_⟩
  obtain ⟨c, k, i, f, a, cell, h1, h2, h3, h4, h5, h6, h7, h8, h9⟩ := Cond.laysStatic_spec hl
  exact ⟨c, k, i, f, a, cell, h1, h2, h3, h4, h5, h6, h7, h8, h9, hA a (Array.getElem?_eq_some_iff.mp h5).1⟩
theorem vx_isRef {C n d : String} {v : Value} {A : Nat → Prop} {s : State} {args : Array Value} (h : va_Z C n d v A s s.heap) (hv : v.isRef = true) : (Cond.isRef (.static C n d)).before args s = true := by
  obtain ⟨cf, kf, fi, f, a, cell, h1, h2, h3, h4, h5, h6, h7, -⟩ := h
  have he : (Term.static C n d).eval args s none [] s = some v := by
    simp [Term.eval, State.fieldNamed?, h1, h2, h4, h5, h6, h7]
  simp only [Cond.before, Cond.holds, Cond.value, he]
  cases v <;> simp_all [Value.isRef]
theorem vx_isRefq {C n d : String} {A : Nat → Prop} {s : State} {args : Array Value} (h : va_Zq C n d A s s.heap) : (Cond.isRef (.static C n d)).before args s = true := by
  rcases h with h | ⟨t, h⟩
  · exact vx_isRef h rfl
  · exact vx_isRef h rfl
/-- the same frame, seen from here: as if the method were called anew in this heap -/
theorem vx_rebase {T : State} (X : Stand p l e R s m args below meth c T locs cells slots) {R' : Room} (hf : R'.frames ≤ R.frames) (hl : R'.locals ≤ R.locals) (hc : cells + R'.cells ≤ R.cells) (hs : slots + R'.slots ≤ R.slots) :
    Stand p l e R' ((T.setVm s.vm).setFrames (.invoking m args :: below)) m args below meth c T [] 0 0 := by
  have htop : (T.setVm s.vm).topJava?.isSome := X.here.top
  have hF : ((T.setVm s.vm).setFrames (.invoking m args :: below)).frames = .invoking m args :: below := State.frames_setFrames _ (State.cur_lt_of_top htop)
  obtain ⟨g₀, hg0⟩ := Option.isSome_iff_exists.mp htop
  obtain ⟨r, hr⟩ := State.topJava?_eq_some.mp hg0
  have hl9 : e.platform.stackLimits (T.setVm s.vm).me = e.platform.stackLimits s.me := X.limits
  have hb9 : (T.setVm s.vm).me.stackBytes = s.me.stackBytes := X.bytes
  refine ⟨X.admits, X.cas, X.clock, hF, ?_, X.hears, X.method, X.code, X.here, X.tail, X.warmed, ?_, ?_, ?_⟩
  · have h := X.room
    have hU : ((T.setVm s.vm).setFrames (.invoking m args :: below)).localsInUse = s.localsInUse := by
      rw [State.localsInUse_invoking hF (meth := meth) (c := c) X.method X.code, State.localsInUse_invoking X.frames X.method X.code]
    simp only [State.hasRoom, Bool.and_eq_true, decide_eq_true_eq] at h ⊢
    obtain ⟨⟨⟨⟨h1, h2, h3, h4, h5, h6⟩, h7⟩, h8⟩, h9⟩ := h
    rw [X.frames, List.length_cons] at h2 h3
    have q1 := X.heapSize
    have q2 := X.used
    simp only [hF, hU, List.length_cons, State.stackLimits_setFrames, State.stackBytes_setFrames, hl9, hb9]
    refine ⟨⟨⟨⟨by omega, by omega, by omega, by omega, by omega, h6⟩, ?_⟩, ?_⟩, X.book⟩
    · show T.heap.size + R'.cells ≤ e.platform.maxCells
      omega
    · show T.slotsUsed + R'.slots ≤ e.platform.maxSlots
      omega
  · rw [State.stackLimits_setFrames]; rfl
  · rw [State.stackBytes_setFrames]; rfl
  · refine ⟨?_, Nat.le_refl _, Nat.le_refl _, ?_, ?_, fun a c9 h9 => ⟨c9, h9, rfl, rfl, fun _ _ => rfl⟩⟩
    · obtain ⟨t, ht, -⟩ := State.frames_cons hr
      show T.setVm s.vm = { ((T.setVm s.vm).setFrames (.invoking m args :: below)).setFrames (T.setVm s.vm).frames with heap := T.heap, slotsUsed := T.slotsUsed }
      rw [State.setFrames_setFrames, State.setFrames_self ht]
      rfl
    · show T.slotsUsed = T.slotsUsed + ((T.heap.toList.drop T.heap.size).map (·.slots.size)).sum
      rw [List.drop_eq_nil_of_le (Nat.le_of_eq Array.length_toList)]
      rfl
    · show ((T.heap.toList.drop T.heap.size).map (·.slots.size)).sum ≤ 0
      rw [List.drop_eq_nil_of_le (Nat.le_of_eq Array.length_toList)]
      exact Nat.le_refl _
/-- 'throw new E()': new; dup; invokespecial; athrow -/
theorem vx_throw0 {cc : ByteArray} {pc : Nat} (hexec : p.tables.exec = Jvm.exec) (hb : c.code = cc) (hl : l.stackTraces = false) {own cls : String} {names : List String} {ik ic mc ms : Nat} {A : Nat → Prop}
    (hown : s.vm.findClass own = some m.cls) (hcls : Bundle.fit cls = true) (hnames : ∀ n ∈ names, Bundle.fit n = true)
    (hk : (Cond.classLink own ik cls).before args s = true) (hini : (Cond.initialized cls).before args s = true) (hat : ∀ w ∈ vx_at0 own ic cls names, w.before args s = true)
    (hgood : ∀ w ∈ Cond.classLink own ik cls :: Cond.initialized cls :: vx_at0 own ic cls names, vx_ot w = true)
    (hU : vx_Zq Bundle.tN "UNASSIGNED_STACK" Bundle.steD A s s.heap) (hN : vx_Zq Bundle.tN "SUPPRESSED_SENTINEL" Bundle.listD A s s.heap) (hS : va_S A s.heap H locs) (hsize : ls.size = c.maxLocals)
    (d0 : decode cc pc = .ok (.new ik, 3)) (d3 : decode cc (pc + 3) = .ok (.dup, 1)) (d4 : decode cc (pc + 4) = .ok (.invokespecial ic, 3)) (d7 : decode cc (pc + 7) = .ok (.athrow, 1))
    (hout : ∀ x ∈ c.exceptionTable.toList, covers x (pc + 7) = false)
    (hRframes : names.length + 3 < R.frames) (hRlocals : (rest.map fun v => v.category).sum + (13 * (names.length + 1) + 42) ≤ R.locals) (hRcells : cells + 1 ≤ R.cells) (hRslots : slots + 6 ≤ R.slots) (hlocks : meth.locks = false)
    (hx : ∀ t : State, s.vm.Alike t.vm → H.size ≤ t.heap.size → (∀ q : Nat, q < H.size → t.heap[q]? = H[q]?) → XC cls s t)
    (hf : ∀ z ∈ locs, free z.base) (hc : cells + 1 ≤ mc) (hs : slots + 6 ≤ ms) :
    W p l e R s m args below meth c H locs cells slots (vx_MQ below Qc XC args s mc ms free) (F0 m pc ls rest) := by
  intro T hT X
  have htr : e.platform.stackTraces = false := (show e.platform.stackTraces = l.stackTraces by rw [X.admits.platform]).trans hl
  have Y := vx_rebase X (R' := { frames := R.frames, locals := R.locals, cells := 1, slots := 6 }) (Nat.le_refl _) (Nat.le_refl _) hRcells hRslots
  obtain ⟨s', hA⟩ : ∃ z, z = (T.setVm s.vm).setFrames (.invoking m args :: below) := ⟨_, rfl⟩
  rw [← hA] at Y
  have hvm : s'.vm = s.vm := by rw [hA]; rfl
  have hhp : s'.heap = H := by rw [hA]; exact hT
  have hW0 : s.WarmedH s'.vm := by rw [hvm]; exact State.WarmedH.refl s
  have hat' : ∀ w ∈ vx_at0 own ic cls names, w.before args s' = true := fun w hw => vx_ot_at hW0 hvm.symm (hgood w (List.mem_cons_of_mem _ (List.mem_cons_of_mem _ hw))) (hat w hw)
  have hk' : (Cond.classLink own ik cls).before args s' = true := vx_ot_at hW0 hvm.symm (hgood _ List.mem_cons_self) hk
  have hini' : (Cond.initialized cls).before args s' = true := vx_ot_at hW0 hvm.symm (hgood _ (List.mem_cons_of_mem _ List.mem_cons_self)) hini
  have hU' : vx_Zq Bundle.tN "UNASSIGNED_STACK" Bundle.steD A s' s'.heap := by rw [hhp]; exact vx_Zq.moved hW0.alike (hU.kept hS.2.1)
  have hN' : vx_Zq Bundle.tN "SUPPRESSED_SENTINEL" Bundle.listD A s' s'.heap := by rw [hhp]; exact vx_Zq.moved hW0.alike (hN.kept hS.2.1)
  have h : ∀ w ∈ Bundle.ownAtoms0 own ic cls names, w.before args s' = true := vx_own hat' (vx_isRefq hU'.1) (vx_isRefq hN'.1) hU'.2.word hN'.2.word
  have hown' : s'.vm.findClass own = some m.cls := by rw [hvm]; exact hown
  have hins : (Cond.instantiable cls 6).before args s' = true := h _ (by simp [Bundle.ownAtoms0])
  obtain ⟨vm₁, cX, kX, hfX, hkX, -, -, X₁, st1⟩ := Y.newCold hexec (own := own) (C := cls) (index := ik) (n := 6) hown' hk' hins hini'
    (g := F0 m pc ls rest) rfl (by rw [hb]; exact d0) (Nat.le_refl _) (Nat.le_refl _)
  generalize hT1 : (T.setVm vm₁).pushCell { cls := cX, slots := kX.instanceTypes.map defaultValue, vm := .none } = T1 at X₁ st1
  have hcat : (Value.ref T.heap.size).category = 1 := rfl
  have hcellA : T1.heap[T.heap.size]? = some (freshCell cX kX) := by rw [← hT1]; exact State.heap_pushCell_size _ _
  have d3' : decode c.code (pc + 3) = .ok (.dup, 1) := by rw [hb]; exact d3
  obtain ⟨U, hsteps, hrun, hend, hW, hsame, ce, hce, hO⟩ := X₁.ctorThrow0 hexec htr (own := own) (cls := cls) (names := names) (ic := ic) hown' hcls hnames h (fun x hx => nomatch hx) hfX hkX hcellA (by rw [hhp, hT]; exact Nat.le_refl _)
    (g := { method := m, pc := pc + 4, locals := ls, stack := .ref T.heap.size :: .ref T.heap.size :: rest, locked := none }) rfl hsize rfl rfl (rest := rest) rfl
    (by rw [hb]; exact d4) (by rw [hb]; exact d7) hout hRframes (by simp only [List.map_cons, List.sum_cons, hcat]; omega) hlocks
  obtain ⟨f1, f2⟩ := vx_frame hsame
  rw [hhp] at f1 f2
  have hWs : s.WarmedH U.vm := State.WarmedH.trans hW0 hW
  have hcl : s.vm.findClass cls = some ce.cls := by
    have h9 := hO.cls
    rw [hvm] at h9
    exact h9
  have hall : s.sameButNew ({ U with vm := s.vm } : State) locs mc ms := by
    subst hA
    obtain ⟨e1, e2⟩ := hsame
    rw [State.setFrames_setFrames] at e1
    have h2 : (T.setVm s.vm).sameButNew ({ U with vm := s.vm } : State) [] (0 + 1) (0 + 6) := ⟨e1, e2⟩
    have h3 := X.same.trans h2
    rw [List.append_nil] at h3
    exact h3.mono hc hs
  refine ⟨U, ?_, .threw T.heap.size, hrun, hend, Or.inr ⟨T.heap.size, rfl, cls, ce, locs, hx U hWs.alike f1 (fun q hq => f2 q hq (fun z hz => nomatch hz)), hce, hO.vm, hcl, hWs, hall, hf⟩⟩
  refine st1 _ ?_
  show Steps p.tables e below (T1.setTop { method := m, pc := pc + 3, locals := ls, stack := .ref T.heap.size :: rest, locked := none }) _
  jvm_step X₁.here [X₁.here.top, hexec, d3', Value.category]
  exact hsteps
/-- 'throw new E("text")': new; dup; ldc; invokespecial; athrow -/
theorem vx_throwS {cc : ByteArray} {pc : Nat} (hexec : p.tables.exec = Jvm.exec) (hb : c.code = cc) (hl : l.stackTraces = false) {own cls text : String} {names : List String} {ik is ic mc ms sa : Nat} {A : Nat → Prop}
    (hown : s.vm.findClass own = some m.cls) (hcls : Bundle.fit cls = true) (hnames : ∀ n ∈ names, Bundle.fit n = true)
    (hk : (Cond.classLink own ik cls).before args s = true) (hini : (Cond.initialized cls).before args s = true) (hstr : vk_R own is text sa s) (hat : ∀ w ∈ vx_atS own ic cls names, w.before args s = true)
    (hgood : ∀ w ∈ Cond.classLink own ik cls :: Cond.initialized cls :: vx_atS own ic cls names, vx_ot w = true)
    (hU : vx_Zq Bundle.tN "UNASSIGNED_STACK" Bundle.steD A s s.heap) (hN : vx_Zq Bundle.tN "SUPPRESSED_SENTINEL" Bundle.listD A s s.heap) (hS : va_S A s.heap H locs) (hsize : ls.size = c.maxLocals)
    (d0 : decode cc pc = .ok (.new ik, 3)) (d3 : decode cc (pc + 3) = .ok (.dup, 1)) (d4 : decode cc (pc + 4) = .ok (.ldc is, 2)) (d6 : decode cc (pc + 6) = .ok (.invokespecial ic, 3)) (d9 : decode cc (pc + 9) = .ok (.athrow, 1))
    (hout : ∀ x ∈ c.exceptionTable.toList, covers x (pc + 9) = false)
    (hRframes : names.length + 3 < R.frames) (hRlocals : (rest.map fun v => v.category).sum + (13 * (names.length + 1) + 43) ≤ R.locals) (hRcells : cells + 1 ≤ R.cells) (hRslots : slots + 6 ≤ R.slots) (hlocks : meth.locks = false)
    (hx : ∀ t : State, s.vm.Alike t.vm → H.size ≤ t.heap.size → (∀ q : Nat, q < H.size → t.heap[q]? = H[q]?) → XC cls s t)
    (hf : ∀ z ∈ locs, free z.base) (hc : cells + 1 ≤ mc) (hs : slots + 6 ≤ ms) :
    W p l e R s m args below meth c H locs cells slots (vx_MQ below Qc XC args s mc ms free) (F0 m pc ls rest) := by
  intro T hT X
  have htr : e.platform.stackTraces = false := (show e.platform.stackTraces = l.stackTraces by rw [X.admits.platform]).trans hl
  have Y := vx_rebase X (R' := { frames := R.frames, locals := R.locals, cells := 1, slots := 6 }) (Nat.le_refl _) (Nat.le_refl _) hRcells hRslots
  obtain ⟨s', hA⟩ : ∃ z, z = (T.setVm s.vm).setFrames (.invoking m args :: below) := ⟨_, rfl⟩
  rw [← hA] at Y
  have hvm : s'.vm = s.vm := by rw [hA]; rfl
  have hhp : s'.heap = H := by rw [hA]; exact hT
  have hW0 : s.WarmedH s'.vm := by rw [hvm]; exact State.WarmedH.refl s
  have hat' : ∀ w ∈ vx_atS own ic cls names, w.before args s' = true := fun w hw => vx_ot_at hW0 hvm.symm (hgood w (List.mem_cons_of_mem _ (List.mem_cons_of_mem _ hw))) (hat w hw)
  have hk' : (Cond.classLink own ik cls).before args s' = true := vx_ot_at hW0 hvm.symm (hgood _ List.mem_cons_self) hk
  have hini' : (Cond.initialized cls).before args s' = true := vx_ot_at hW0 hvm.symm (hgood _ (List.mem_cons_of_mem _ List.mem_cons_self)) hini
  have hU' : vx_Zq Bundle.tN "UNASSIGNED_STACK" Bundle.steD A s' s'.heap := by rw [hhp]; exact vx_Zq.moved hW0.alike (hU.kept hS.2.1)
  have hN' : vx_Zq Bundle.tN "SUPPRESSED_SENTINEL" Bundle.listD A s' s'.heap := by rw [hhp]; exact vx_Zq.moved hW0.alike (hN.kept hS.2.1)
  have h : ∀ w ∈ Bundle.ownAtoms own ic cls names, w.before args s' = true := vx_own hat' (vx_isRefq hU'.1) (vx_isRefq hN'.1) hU'.2.word hN'.2.word
  have hown' : s'.vm.findClass own = some m.cls := by rw [hvm]; exact hown
  have hins : (Cond.instantiable cls 6).before args s' = true := h _ (by simp [Bundle.ownAtoms])
  obtain ⟨vm₁, cX, kX, hfX, hkX, -, -, X₁, st1⟩ := Y.newCold hexec (own := own) (C := cls) (index := ik) (n := 6) hown' hk' hins hini'
    (g := F0 m pc ls rest) rfl (by rw [hb]; exact d0) (Nat.le_refl _) (Nat.le_refl _)
  generalize hT1 : (T.setVm vm₁).pushCell { cls := cX, slots := kX.instanceTypes.map defaultValue, vm := .none } = T1 at X₁ st1
  have hcat : (Value.ref T.heap.size).category = 1 := rfl
  have hcellA : T1.heap[T.heap.size]? = some (freshCell cX kX) := by rw [← hT1]; exact State.heap_pushCell_size _ _
  have d3' : decode c.code (pc + 3) = .ok (.dup, 1) := by rw [hb]; exact d3
  have d4' : decode c.code (pc + 4) = .ok (.ldc is, 2) := by rw [hb]; exact d4
  have hstr' : vk_R own is text sa s' := vk_R.warm hW0 hstr
  obtain ⟨U, hsteps, hrun, hend, hW, hsame, ce, hce, hO⟩ := X₁.ctorThrowS hexec htr (own := own) (cls := cls) (names := names) (ic := ic) hown' hcls hnames h (fun x hx => nomatch hx) hfX hkX hcellA (by rw [hhp, hT]; exact Nat.le_refl _) (msg := .ref sa) rfl
    (g := { method := m, pc := pc + 6, locals := ls, stack := .ref sa :: .ref T.heap.size :: .ref T.heap.size :: rest, locked := none }) rfl hsize rfl rfl (rest := rest) rfl
    (by rw [hb]; exact d6) (by rw [hb]; exact d9) hout hRframes (by simp only [List.map_cons, List.sum_cons, hcat]; omega) hlocks
  obtain ⟨f1, f2⟩ := vx_frame hsame
  rw [hhp] at f1 f2
  have hWs : s.WarmedH U.vm := State.WarmedH.trans hW0 hW
  have hcl : s.vm.findClass cls = some ce.cls := by
    have h9 := hO.cls
    rw [hvm] at h9
    exact h9
  have hall : s.sameButNew ({ U with vm := s.vm } : State) locs mc ms := by
    subst hA
    obtain ⟨e1, e2⟩ := hsame
    rw [State.setFrames_setFrames] at e1
    have h2 : (T.setVm s.vm).sameButNew ({ U with vm := s.vm } : State) [] (0 + 1) (0 + 6) := ⟨e1, e2⟩
    have h3 := X.same.trans h2
    rw [List.append_nil] at h3
    exact h3.mono hc hs
  refine ⟨U, ?_, .threw T.heap.size, hrun, hend, Or.inr ⟨T.heap.size, rfl, cls, ce, locs, hx U hWs.alike f1 (fun q hq => f2 q hq (fun z hz => nomatch hz)), hce, hO.vm, hcl, hWs, hall, hf⟩⟩
  refine st1 _ ?_
  show Steps p.tables e below (T1.setTop { method := m, pc := pc + 3, locals := ls, stack := .ref T.heap.size :: rest, locked := none }) _
  jvm_step X₁.here [X₁.here.top, hexec, d3', Value.category]
  exact X₁.ldcString hexec (own := own) (text := text) (index := is) (a := sa) hown' hstr'.1 hstr'.2
    (g := { method := m, pc := pc + 4, locals := ls, stack := .ref T.heap.size :: .ref T.heap.size :: rest, locked := none }) rfl d4' _ hsteps
/-- 'throw new E("text")', the text by a wide index -/
theorem vx_throwSW {cc : ByteArray} {pc : Nat} (hexec : p.tables.exec = Jvm.exec) (hb : c.code = cc) (hl : l.stackTraces = false) {own cls text : String} {names : List String} {ik is ic mc ms sa : Nat} {A : Nat → Prop}
    (hown : s.vm.findClass own = some m.cls) (hcls : Bundle.fit cls = true) (hnames : ∀ n ∈ names, Bundle.fit n = true)
    (hk : (Cond.classLink own ik cls).before args s = true) (hini : (Cond.initialized cls).before args s = true) (hstr : vk_R own is text sa s) (hat : ∀ w ∈ vx_atS own ic cls names, w.before args s = true)
    (hgood : ∀ w ∈ Cond.classLink own ik cls :: Cond.initialized cls :: vx_atS own ic cls names, vx_ot w = true)
    (hU : vx_Zq Bundle.tN "UNASSIGNED_STACK" Bundle.steD A s s.heap) (hN : vx_Zq Bundle.tN "SUPPRESSED_SENTINEL" Bundle.listD A s s.heap) (hS : va_S A s.heap H locs) (hsize : ls.size = c.maxLocals)
    (d0 : decode cc pc = .ok (.new ik, 3)) (d3 : decode cc (pc + 3) = .ok (.dup, 1)) (d4 : decode cc (pc + 4) = .ok (.ldc_w is, 3)) (d7 : decode cc (pc + 7) = .ok (.invokespecial ic, 3)) (d10 : decode cc (pc + 10) = .ok (.athrow, 1))
    (hout : ∀ x ∈ c.exceptionTable.toList, covers x (pc + 10) = false)
    (hRframes : names.length + 3 < R.frames) (hRlocals : (rest.map fun v => v.category).sum + (13 * (names.length + 1) + 43) ≤ R.locals) (hRcells : cells + 1 ≤ R.cells) (hRslots : slots + 6 ≤ R.slots) (hlocks : meth.locks = false)
    (hx : ∀ t : State, s.vm.Alike t.vm → H.size ≤ t.heap.size → (∀ q : Nat, q < H.size → t.heap[q]? = H[q]?) → XC cls s t)
    (hf : ∀ z ∈ locs, free z.base) (hc : cells + 1 ≤ mc) (hs : slots + 6 ≤ ms) :
    W p l e R s m args below meth c H locs cells slots (vx_MQ below Qc XC args s mc ms free) (F0 m pc ls rest) := by
  intro T hT X
  have htr : e.platform.stackTraces = false := (show e.platform.stackTraces = l.stackTraces by rw [X.admits.platform]).trans hl
  have Y := vx_rebase X (R' := { frames := R.frames, locals := R.locals, cells := 1, slots := 6 }) (Nat.le_refl _) (Nat.le_refl _) hRcells hRslots
  obtain ⟨s', hA⟩ : ∃ z, z = (T.setVm s.vm).setFrames (.invoking m args :: below) := ⟨_, rfl⟩
  rw [← hA] at Y
  have hvm : s'.vm = s.vm := by rw [hA]; rfl
  have hhp : s'.heap = H := by rw [hA]; exact hT
  have hW0 : s.WarmedH s'.vm := by rw [hvm]; exact State.WarmedH.refl s
  have hat' : ∀ w ∈ vx_atS own ic cls names, w.before args s' = true := fun w hw => vx_ot_at hW0 hvm.symm (hgood w (List.mem_cons_of_mem _ (List.mem_cons_of_mem _ hw))) (hat w hw)
  have hk' : (Cond.classLink own ik cls).before args s' = true := vx_ot_at hW0 hvm.symm (hgood _ List.mem_cons_self) hk
  have hini' : (Cond.initialized cls).before args s' = true := vx_ot_at hW0 hvm.symm (hgood _ (List.mem_cons_of_mem _ List.mem_cons_self)) hini
  have hU' : vx_Zq Bundle.tN "UNASSIGNED_STACK" Bundle.steD A s' s'.heap := by rw [hhp]; exact vx_Zq.moved hW0.alike (hU.kept hS.2.1)
  have hN' : vx_Zq Bundle.tN "SUPPRESSED_SENTINEL" Bundle.listD A s' s'.heap := by rw [hhp]; exact vx_Zq.moved hW0.alike (hN.kept hS.2.1)
  have h : ∀ w ∈ Bundle.ownAtoms own ic cls names, w.before args s' = true := vx_own hat' (vx_isRefq hU'.1) (vx_isRefq hN'.1) hU'.2.word hN'.2.word
  have hown' : s'.vm.findClass own = some m.cls := by rw [hvm]; exact hown
  have hins : (Cond.instantiable cls 6).before args s' = true := h _ (by simp [Bundle.ownAtoms])
  obtain ⟨vm₁, cX, kX, hfX, hkX, -, -, X₁, st1⟩ := Y.newCold hexec (own := own) (C := cls) (index := ik) (n := 6) hown' hk' hins hini'
    (g := F0 m pc ls rest) rfl (by rw [hb]; exact d0) (Nat.le_refl _) (Nat.le_refl _)
  generalize hT1 : (T.setVm vm₁).pushCell { cls := cX, slots := kX.instanceTypes.map defaultValue, vm := .none } = T1 at X₁ st1
  have hcat : (Value.ref T.heap.size).category = 1 := rfl
  have hcellA : T1.heap[T.heap.size]? = some (freshCell cX kX) := by rw [← hT1]; exact State.heap_pushCell_size _ _
  have d3' : decode c.code (pc + 3) = .ok (.dup, 1) := by rw [hb]; exact d3
  have d4' : decode c.code (pc + 4) = .ok (.ldc_w is, 3) := by rw [hb]; exact d4
  have hstr' : vk_R own is text sa s' := vk_R.warm hW0 hstr
  obtain ⟨U, hsteps, hrun, hend, hW, hsame, ce, hce, hO⟩ := X₁.ctorThrowS hexec htr (own := own) (cls := cls) (names := names) (ic := ic) hown' hcls hnames h (fun x hx => nomatch hx) hfX hkX hcellA (by rw [hhp, hT]; exact Nat.le_refl _) (msg := .ref sa) rfl
    (g := { method := m, pc := pc + 7, locals := ls, stack := .ref sa :: .ref T.heap.size :: .ref T.heap.size :: rest, locked := none }) rfl hsize rfl rfl (rest := rest) rfl
    (by rw [hb]; exact d7) (by rw [hb]; exact d10) hout hRframes (by simp only [List.map_cons, List.sum_cons, hcat]; omega) hlocks
  obtain ⟨f1, f2⟩ := vx_frame hsame
  rw [hhp] at f1 f2
  have hWs : s.WarmedH U.vm := State.WarmedH.trans hW0 hW
  have hcl : s.vm.findClass cls = some ce.cls := by
    have h9 := hO.cls
    rw [hvm] at h9
    exact h9
  have hall : s.sameButNew ({ U with vm := s.vm } : State) locs mc ms := by
    subst hA
    obtain ⟨e1, e2⟩ := hsame
    rw [State.setFrames_setFrames] at e1
    have h2 : (T.setVm s.vm).sameButNew ({ U with vm := s.vm } : State) [] (0 + 1) (0 + 6) := ⟨e1, e2⟩
    have h3 := X.same.trans h2
    rw [List.append_nil] at h3
    exact h3.mono hc hs
  refine ⟨U, ?_, .threw T.heap.size, hrun, hend, Or.inr ⟨T.heap.size, rfl, cls, ce, locs, hx U hWs.alike f1 (fun q hq => f2 q hq (fun z hz => nomatch hz)), hce, hO.vm, hcl, hWs, hall, hf⟩⟩
  refine st1 _ ?_
  show Steps p.tables e below (T1.setTop { method := m, pc := pc + 3, locals := ls, stack := .ref T.heap.size :: rest, locked := none }) _
  jvm_step X₁.here [X₁.here.top, hexec, d3', Value.category]
  exact X₁.ldcStringW hexec (own := own) (text := text) (index := is) (a := sa) hown' hstr'.1 hstr'.2
    (g := { method := m, pc := pc + 4, locals := ls, stack := .ref T.heap.size :: .ref T.heap.size :: rest, locked := none }) rfl d4' _ hsteps
end Ends
section Bodies
variable {l : Launch}
theorem vx_ofW {y : MethodName} {ws ws' : List Cond} {rm : Room} {Pc : Array Value → State → Prop} {Qc : Array Value → State → Outcome → State → Prop} {XC : String → State → State → Prop} {mc ms : Nat} {free : Addr → Prop} {cc : ByteArray} {maxL : Nat} {ret : Option FieldType}
    (hy : plainName y.cls = true) (hw : ws = Cond.code y cc maxL ret :: ws')
    (body : ∀ p e s m args below meth c s₁, BodyLoose p l y (headSpec ws rm) cc maxL ret e s m args below meth c s₁ → c.maxLocals = maxL → (∀ x ∈ c.exceptionTable.toList, False) → Pc args s →
      W p l e (headSpec ws rm).room s m args below meth c s.heap [] 0 0 (vx_MQ below Qc XC args s mc ms free) (entryFrame m args maxL)) : vx_Met l y ws rm Pc Qc XC mc ms free := by
  refine MetFree.of_bodyS (code := cc) (maxLocals := maxL) (ret := ret) hy ?_ ?_
  · intro args s m h hn
    obtain ⟨meth, c, h1, h2, h3, h4, h5, h6, -, -⟩ := Cond.code_spec hn (atoms_spec (ws := ws) h _ (by rw [hw]; exact List.mem_cons_self))
    exact ⟨meth, c, h1, h2, h3, h4, h5, h6⟩
  · intro p e s m args below meth c s₁ B hml hP _
    have hh0 : s₁.heap = s.heap := by rw [B.state]; rfl
    have ht : ∀ x ∈ c.exceptionTable.toList, False := by
      obtain ⟨meth9, c9, h1, h2, -, -, -, -, h7, -⟩ := Cond.code_spec B.named (atoms_spec (ws := ws) B.pre _ (by rw [hw]; exact List.mem_cons_self))
      cases Option.some.inj (h1.symm.trans B.method)
      cases Option.some.inj (h2.symm.trans (Stand.of_body B).code)
      intro x hx
      rw [Array.isEmpty_iff.mp h7] at hx
      cases hx
    obtain ⟨t, a1, o, b1, b2, b3⟩ := body p e s m args below meth c s₁ B hml ht hP s₁ hh0 (Stand.of_body B)
    exact ⟨t, o, a1, b1, b2, b3⟩
/-- the table of a body with handlers -/
theorem vx_table {p : Program} {x y : MethodName} {S : Spec} {cc bytes : ByteArray} {maxL maxL' : Nat} {ret ret' : Option FieldType} {e : Env} {s s₁ : State} {m : MethodId} {args : Array Value} {below : List Frame} {meth : Method} {c : Code} {hh : List (Nat × Nat × Nat × Nat)}
    (B : BodyLoose p l y S cc maxL ret e s m args below meth c s₁) (h : (Cond.codeWith y bytes maxL' ret' hh).before args s = true) : c.exceptionTable.toList = tableOf hh := by
  obtain ⟨m9, meth9, c9, hn9, h1, h2, -, -, h6, -⟩ := Cond.codeWith_spec h
  cases Option.some.inj (hn9.symm.trans B.named)
  cases Option.some.inj (h1.symm.trans B.method)
  cases Option.some.inj (h2.symm.trans (Stand.of_body B).code)
  rw [← h6, table_eq]
end Bodies
end VXA
/-! ===== END ===== -/
/-! ===== BEGIN a static call of a method with an exception table ===== -/
section VXS
variable {p : Program} {l : Launch} {e : Env} {R : Room} {s : State} {m : MethodId} {args : Array Value} {below : List Frame} {meth : Method} {c : Code} {T : State} {H : Heap} {locs : List Loc} {cells slots : Nat}
abbrev vx_CSW (R : Room) (s : State) (args : Array Value) (own : String) (index : Nat) (y : MethodName) (bytes : ByteArray) (maxL : Nat) (ret : Option FieldType) (hh : List (Nat × Nat × Nat × Nat)) (ws : List Cond) (rm : Room) (mc ms n : Nat) : Prop :=
  (rm.cells = mc ∧ rm.slots = ms ∧ rm.frames + 1 ≤ R.frames ∧ 8 + (maxL + 11) + rm.locals ≤ R.locals ∧ (∀ w ∈ ws, ∀ (a' : Array Value) (U : State), s.WarmedH U.vm → w.before a' U = true) ∧ Cond.codeWith y bytes maxL ret hh ∈ ws) ∧
  (Cond.codeWith y bytes maxL ret hh).before args s = true ∧ (Cond.initialized y.cls).before args s = true ∧ (y.cls ≠ "java/lang/invoke/MethodHandle" ∧ y.cls ≠ "java/lang/invoke/VarHandle") ∧
  (∀ sig, parseMethodDescriptor y.desc = some sig → n = sig.parameters.length) ∧ (Cond.methodLink own index y).before args s = true ∧ (Cond.static y).before args s = true
theorem vx_cwSW {own : String} {index maxL mc ms : Nat} {y : MethodName} {bytes : ByteArray} {ret : Option FieldType} {hh : List (Nat × Nat × Nat × Nat)} {Ts ws ws' : List Cond} {rm : Room} (n : Nat) (ht : ∀ w ∈ Ts, w.before args s = true) (hT : GoodIn Ts (va_wsS own index y ws)) (hw : ws = Cond.codeWith y bytes maxL ret hh :: ws') (hrc : rm.cells = mc) (hrs : rm.slots = ms)
    (hd : y.cls ≠ "java/lang/invoke/MethodHandle" ∧ y.cls ≠ "java/lang/invoke/VarHandle" ∧ (parseMethodDescriptor y.desc).map (fun d => d.parameters.length) = some n) (hR : rm.frames + 1 ≤ R.frames ∧ 8 + (maxL + 11) + rm.locals ≤ R.locals) :
    vx_CSW R s args own index y bytes maxL ret hh ws rm mc ms n := by
  have ok : ∀ w ∈ va_wsS own index y ws, w.before args s = true := fun w h => ht w (hT w h).1
  have hG : GoodIn Ts ws := fun w h => hT w (by unfold va_wsS; exact List.mem_append_right _ h)
  have hc : Cond.codeWith y bytes maxL ret hh ∈ ws := by rw [hw]; exact List.mem_cons_self
  refine ⟨⟨hrc, hrs, hR.1, hR.2, pay_in ht hG, hc⟩, ht _ (hG _ hc).1, ok _ (by simp [va_wsS]), ⟨hd.1, hd.2.1⟩, fun sig h => ?_, ok _ (by simp [va_wsS]), ok _ (by simp [va_wsS])⟩
  have h2 := hd.2.2
  rw [h] at h2
  exact (Option.some.inj h2).symm
theorem vx_callSW (X : Stand p l e R s m args below meth c T locs cells slots) (hexec : p.tables.exec = Jvm.exec) {own : String} {index : Nat} {y : MethodName} {bytes : ByteArray} {maxL : Nat} {ret : Option FieldType} {hh : List (Nat × Nat × Nat × Nat)}
    (hown : s.vm.findClass own = some m.cls) (hlink : (Cond.methodLink own index y).before args s = true) (hstat : (Cond.static y).before args s = true) (hinit : (Cond.initialized y.cls).before args s = true)
    (hcode : (Cond.codeWith y bytes maxL ret hh).before args s = true) (hy : y.cls ≠ "java/lang/invoke/MethodHandle" ∧ y.cls ≠ "java/lang/invoke/VarHandle")
    {W9 : Nat} {Pre : Pt → Array Value → Prop} {Post : Pt → Array Value → Option Value → Pt → Prop} (hK : Back l R p e below s args y 3 W9 Pre Post)
    {g : JFrame} (hg : g.method = m) (hsize : g.locals.size = c.maxLocals) {argsL rest : List Value} (hlen : ∀ sig, parseMethodDescriptor y.desc = some sig → argsL.length = sig.parameters.length)
    (hstack : g.stack = argsL.reverse ++ rest) (hW : 2 * g.monitorRoom + (rest.map fun v => v.category).sum ≤ W9) (hdg : decode c.code g.pc = .ok (.invokestatic index, 3))
    (hpre : ∀ vm₁, s.WarmedH vm₁ → Pre ⟨T.setVm vm₁, locs, cells, slots⟩ argsL.toArray) :
    ∃ (v : Option Value) (vm₁ : Vm) (B : Pt), s.WarmedH vm₁ ∧ Stand p l e R s m args below meth c B.U B.locs B.cells B.slots ∧ Post ⟨T.setVm vm₁, locs, cells, slots⟩ argsL.toArray v B ∧
      ∀ target, Steps p.tables e below (B.U.setTop { g with pc := g.pc + 3, stack := v.toList ++ rest }) target → Steps p.tables e below (T.setTop g) target := by
  obtain ⟨mk, methM, cM, hnamed, hmethM, -, -, -, -, -, -, hsigM⟩ := Cond.codeWith_spec hcode
  have hstatic : methM.isStatic = true := Cond.static_spec hnamed hmethM hstat
  obtain ⟨kP, hkP, -⟩ := className_of_methodNamed hnamed
  have hinitP : kP.init = .initialized := Cond.initialized_spec (findClass_of_methodNamed hnamed) hkP hinit
  obtain ⟨vm₁, X₁, hstep₁⟩ := X.invokestatic hexec hown hlink hnamed hmethM hstatic hkP hinitP hy (g := g) hg (argsL := argsL) (rest := rest) (hlen _ hsigM) hstack hdg
  obtain ⟨v, B, X', hpost, hsteps⟩ := hK m meth c ⟨T.setVm vm₁, locs, cells, slots⟩ { g with stack := rest } (.invokestatic index) mk argsL.toArray X₁ hg hsize hdg hW (X₁.named hnamed) (hpre vm₁ X₁.warmed)
  exact ⟨v, vm₁, B, X₁.warmed, X', hpost, fun target h => hstep₁ _ fun acts => by rw [doInvoke_state]; exact hsteps.trans h⟩
theorem vx_runSW {y : MethodName} {bytes cc : ByteArray} {maxL nL mc ms n index : Nat} {ret : Option FieldType} {hh : List (Nat × Nat × Nat × Nat)} {ws : List Cond} {rm : Room} {Pc : Array Value → State → Prop} {Qc : Array Value → State → Outcome → State → Prop} {free : Addr → Prop} {Ts : List Cond} {own : String} {As rest : List Value} {g : JFrame}
    (S : CallFix p m c cc nL s args Ts own) (hM : Met l y ws rm Pc Qc mc ms free) (cw : vx_CSW R s args own index y bytes maxL ret hh ws rm mc ms n) (hp : PreS s H Pc As)
    (hg : g.method = m) (hn : As.length = n) (hsize : g.locals.size = nL) (hstack : g.stack = As.reverse ++ rest) (hW : 2 * g.monitorRoom + (rest.map fun v => v.category).sum ≤ 8) (hdg : decode cc g.pc = .ok (.invokestatic index, 3)) (hf : cells + mc ≤ R.cells ∧ slots + ms ≤ R.slots) :
    va_Run p l e R s m args below meth c H locs cells slots mc ms g rest (Qc As.toArray) (free) := by
  obtain ⟨⟨hrc, hrs, hfr, hlo, hws, hcw⟩, hcode, hini, hy, hlen, hl, hstt⟩ := cw
  have hK : Back l R p e below s args y 3 8 (PreOf R mc ms Pc) (PostOf Qc mc ms free) := va_backW (hh := hh) (bytes := bytes) (maxL := maxL) (ret := ret) hM hp.1 hrc hrs hfr hlo hws hcw (fun a' U hW => word_at hW (Or.inl (by first | rfl | simp [Cond.onTables, Cond.keeps, Cond.steady])) hini)
  obtain ⟨hx, hb, hml, ho, -⟩ := S
  intro T hT X
  obtain ⟨v, vm₁, ⟨U', l2, c2, s2⟩, hW₁, X', ⟨g', mk, t, L, e1, e2, hq, h1, hL, h2, h3⟩, st⟩ := vx_callSW X hx (hh := hh) (bytes := bytes) (maxL := maxL) (ret := ret) ho hl hstt hini hcode hy hK hg (hsize.trans hml.symm) (argsL := As) (rest := rest) (fun sig h => hn.trans (hlen sig h)) hstack hW (by rw [hb]; exact hdg)
    (fun vm₁ hW₁ => ⟨hf.1, hf.2, hp.2 (T.setVm vm₁) hT hW₁⟩)
  dsimp only [Pt.U, Pt.locs, Pt.cells, Pt.slots] at X' e1 e2 h1 h2 h3 st
  subst h1; subst h2; subst h3
  exact ⟨v, (T.setVm vm₁).calling g' mk As.toArray, t, U', L, hT, X', hL, e1, e2, hq, st⟩
/-- not caught here, past rows that name other classes: it goes on to the caller -/
theorem vx_outP {p : Program} {l : Launch} {e : Env} {R : Room} {s : State} {m : MethodId} {args : Array Value} {below : List Frame} {meth : Method} {c : Code} {H : Heap} {locs : List Loc} {cells slots : Nat} {free : Addr → Prop} {ls : Array Slot} {rest : List Value} {Qc : Array Value → State → Outcome → State → Prop} {XC : String → State → State → Prop}
    {pc : Nat} {own E : String} {ce : Cell} {q : Addr} {mc ms : Nat} (hown : s.vm.findClass own = some m.cls) (hlocks : meth.locks = false)
    (hpass : ∀ z ∈ c.exceptionTable.toList, covers z pc = false ∨ (z.catchType ≠ 0 ∧ ∃ nm : String, (Cond.classLink own z.catchType nm).before args s = true ∧ va_Nc E nm s)) (hcell : H[q]? = some ce) (hv : ce.vm = .none) (hcl : s.vm.findClass E = some ce.cls)
    (hx : ∀ t : State, t.heap = H → s.vm.Alike t.vm → XC E s t) (hf : ∀ z ∈ locs, free z.base) (hc : cells ≤ mc) (hs : slots ≤ ms) :
    vx_W p l e R s m args below meth c H locs cells slots (vx_MQ below Qc XC args s mc ms free) (F0 m pc ls rest) q := by
  intro T hT X
  have hpl : e.platform.magicAccessors = ({} : Platform).magicAccessors := by rw [X.admits.platform]
  obtain ⟨vm', hW', X', st⟩ := X.outThrough hlocks q (g := F0 m pc ls rest) rfl rfl rfl (cell := ce) (by rw [hT]; exact hcell) (by rw [hv]; rfl)
    (by obtain ⟨k9, h9, -⟩ := Vm.findClass_spec hcl; exact ⟨k9, h9⟩) (fun z hz => by
      rcases hpass z hz with h | ⟨hz0, nm, hl1, hn1⟩
      · exact Or.inl h
      · obtain ⟨c6, hc6, hcl6⟩ := Cond.classLink_spec hown hl1 e.platform hpl
        obtain ⟨a8, b8, h1, h2, h3⟩ := hn1
        cases Option.some.inj (h1.symm.trans hcl)
        cases Option.some.inj (h2.symm.trans hc6)
        exact Or.inr ⟨hz0, _, hcl6, h3⟩)
  obtain ⟨g₀, hfr⟩ := X'.frames_eq
  have hcell9 : ((T.setVm vm').setFrames (.throwing q :: below)).heap[q]? = some ce := by
    show T.heap[q]? = some ce
    rw [hT]; exact hcell
  have hend : Ended ((T.setVm vm').setFrames (.throwing q :: below)) below (.threw q) := State.frames_setFrames _ (State.cur_lt_of_frames hfr)
  refine ⟨(T.setVm vm').setFrames (.throwing q :: below), ?_, .threw q, X'.here.running, hend, Or.inr ⟨q, rfl, E, ce, locs, hx _ hT (X'.ends _).1.alike, hcell9, hv, hcl, (X'.ends _).1, (X'.ends _).2.mono hc hs, hf⟩⟩
  rw [X.pushThrowing_eq]
  exact st
/-- a thing of a world lies in the heap -/
theorem vx_lt {D : va_G} {cl : List vw_C} {ws : va_W} {H1 : Heap} (h : va_P D cl ws H1) {k : Nat} {q : Nat × va_E} (hk : ws[k]? = some q) : q.1 < H1.size := (h k q hk).lt
end VXS
/-! ===== END ===== -/
/-! ===== BEGIN methods with a table of their own: called by a name, returning or throwing ===== -/
section VXH
/-! vx_backW, vx_callVX, vx_callSX, vx_callVW, vx_runVW, vx_runVX, vx_runSX, vx_ofWH follow the same proofs as their sisters above (Free/Laws.lean, Shelf42/LK1.lean); vx_outP calls Shelf42/NT130.lean (outThrough). -/
section
variable {l : Launch} {R : Room} {p : Program} {e : Env} {below : List Frame} {s : State} {sargs : Array Value} {y : MethodName} {len W9 : Nat}
theorem vx_backW {ws : List Cond} {rm : Room} {Pc : Array Value → State → Prop} {Qc : Array Value → State → Outcome → State → Prop} {XC : String → State → State → Prop} {mc ms : Nat} {free : Addr → Prop} {bytes : ByteArray} {maxL : Nat} {ret : Option FieldType} {hh : List (Nat × Nat × Nat × Nat)}
    (hM : vx_Met l y ws rm Pc Qc XC mc ms free) (hblind : FrameBlind Pc) (hrc : rm.cells = mc) (hrs : rm.slots = ms)
    (hframes : rm.frames + 1 ≤ R.frames) (hlocals : W9 + (maxL + 11) + rm.locals ≤ R.locals)
    (hws : ∀ w ∈ ws, ∀ a' U, s.WarmedH U.vm → w.before a' U = true) (hcode : Cond.codeWith y bytes maxL ret hh ∈ ws) (hinit : ∀ a' U, s.WarmedH U.vm → (Cond.initialized y.cls).before a' U = true) :
    vx_Back l R p e below s sargs y len W9 (PreOf R mc ms Pc) (PostOf Qc mc ms free) (vx_Post XC mc ms free) := by
  intro m meth c A g ig mk a X hg hsize hdg hW hn hp
  have h1 : (headSpec ws rm).pre.before a A.U = true := atoms_intro fun w hw => hws w hw _ _ X.warmed
  have h2 : (Cond.codeWith y bytes maxL ret hh).before a A.U = true := hws _ hcode _ _ X.warmed
  have h3 : (Cond.initialized y.cls).before a A.U = true := hinit _ _ X.warmed
  have h4 : A.cells + (headSpec ws rm).room.cells ≤ R.cells := by rw [show (headSpec ws rm).room.cells = mc from hrc]; exact hp.1
  have h5 : A.slots + (headSpec ws rm).room.slots ≤ R.slots := by rw [show (headSpec ws rm).room.slots = ms from hrs]; exact hp.2.1
  have hPc : Pc a (A.U.calling g mk a) := hblind _ _ _ _ hp.2.2
  obtain ⟨U, Ls, c0, s0⟩ := A
  dsimp only [Pt.U, Pt.locs, Pt.cells, Pt.slots] at h1 h2 h3 h4 h5 X hn hPc ⊢
  obtain ⟨m9, methY, cY, hn9, hmY, hcY, -, hlY, -⟩ := Cond.codeWith_spec h2
  cases Option.some.inj (hn9.symm.trans hn)
  obtain ⟨kY, hkY, -⟩ := className_of_methodNamed hn
  have hinitY : kY.init = .initialized := Cond.initialized_spec (findClass_of_methodNamed hn) hkY h3
  have h : At U g.method c below := by rw [hg]; exact X.here
  have hlocals9 : W9 + (maxL + 11) + (headSpec ws rm).room.locals ≤ R.locals := hlocals
  have happ : (headSpec ws rm).appliesLoose y e.platform (U.calling g mk a) = true :=
    Spec.appliesLoose_calling (g := g) h hdg hn hkY hinitY
      (X.room_calling (g := g) (R' := (headSpec ws rm).room) hsize hmY hcY hframes (by rw [hlY]; omega) h4 h5) h1
  obtain ⟨mid, hmid⟩ := h.above
  have hfr : (U.setTop g).frames = (.java g :: mid) ++ below := by rw [State.frames_setTop' g h.top, hmid]; rfl
  obtain ⟨o, s₂, hsteps, -, hend, hq⟩ := Steps.callFree hM p X.admits X.cas X.clock (acts := []) hfr happ hPc trivial
  have hq' : vx_Q Qc XC mc ms free a (U.calling g mk a) o s₂ := hq
  rw [State.frames_setTop' g h.top] at hend
  obtain ⟨g₀, hg0⟩ := Option.isSome_iff_exists.mp h.top
  obtain ⟨r, hr⟩ := State.topJava?_eq_some.mp hg0
  have hr' : (({ U with heap := s₂.heap, slotsUsed := s₂.slotsUsed } : State).setVm s₂.vm).frames = .java g₀ :: r := hr
  rcases hq' with ⟨hqc, L, hfe, hL⟩ | ⟨q, rfl, E, ce, L, hx, hce, hcv, hcl, hW₂, hsm, hL⟩
  · obtain ⟨⟨v, rfl⟩, hW₂, e2, q2, q3, q4, q5, q6⟩ := id hfe
    have e3 : s₂ = ({ (U.calling g mk a).setFrames s₂.frames with heap := s₂.heap, slotsUsed := s₂.slotsUsed } : State).setVm s₂.vm := by
      have : s₂ = ({ s₂ with vm := (U.calling g mk a).vm } : State).setVm s₂.vm := rfl
      rw [e2] at this
      exact this
    obtain ⟨c₂, i₂, len₂, hc₂, hd₂, hf₂⟩ := hend
    have hW' : U.WarmedH s₂.vm := hW₂
    have hcc : c₂ = c := by
      have h1 : s₂.code? g.method = U.code? g.method := by
        rw [State.code?_eq, State.code?_eq, hW'.alike.method?]
      exact Option.some.inj (hc₂.symm.trans (h1.trans h.code))
    subst hcc
    have hlen : len₂ = len := by rw [hdg] at hd₂; cases hd₂; rfl
    subst hlen
    have hs₂ : s₂ = (({ U with heap := s₂.heap, slotsUsed := s₂.slotsUsed } : State).setVm s₂.vm).setTop { g with pc := g.pc + len₂, stack := v.toList ++ g.stack } := by
      refine e3.trans ?_
      rw [hf₂, State.calling_eq h.top, State.setFrames_setFrames, State.setTop_of_frames _ hr', hr]
      rfl
    have hsame : U.sameButNew ({ U with heap := s₂.heap, slotsUsed := s₂.slotsUsed } : State) L mc ms := by
      refine ⟨?_, q2, q3, q4, q5, q6⟩
      obtain ⟨t, ht, -⟩ := State.frames_cons hr
      show ({ U with heap := s₂.heap, slotsUsed := s₂.slotsUsed } : State) = { U.setFrames U.frames with heap := s₂.heap, slotsUsed := s₂.slotsUsed }
      rw [State.setFrames_self ht]
    subst hg
    refine Or.inl ⟨v, ⟨(({ U with heap := s₂.heap, slotsUsed := s₂.slotsUsed } : State).setVm s₂.vm), Ls ++ L, c0 + mc, s0 + ms⟩,
      ⟨X.admits, X.cas, X.clock, X.frames, X.room, X.hears, X.method, X.code, (X.here.setHeapUsed s₂.heap s₂.slotsUsed).setVm hW'.alike, X.tail, State.WarmedH.trans X.warmed hW', X.limits, X.bytes, X.same.trans (hsame.setVm s.vm)⟩,
      ⟨g, mk, s₂, L, rfl, rfl, hqc, rfl, hL, rfl, rfl⟩, ?_⟩
    show Steps p.tables e below _ ((({ U with heap := s₂.heap, slotsUsed := s₂.slotsUsed } : State).setVm s₂.vm).setTop { g with pc := g.pc + len₂, stack := v.toList ++ g.stack })
    rw [← hs₂]
    exact hsteps
  · obtain ⟨e2, q2, q3, q4, q5, q6⟩ := id hsm
    have e3 : s₂ = ({ (U.calling g mk a).setFrames s₂.frames with heap := s₂.heap, slotsUsed := s₂.slotsUsed } : State).setVm s₂.vm := by
      have : s₂ = ({ s₂ with vm := (U.calling g mk a).vm } : State).setVm s₂.vm := rfl
      rw [e2] at this
      exact this
    have hf₂ : s₂.frames = .throwing q :: .java g :: U.frames.tail := hend
    have hW' : U.WarmedH s₂.vm := hW₂
    have hs₂ : s₂ = ((({ U with heap := s₂.heap, slotsUsed := s₂.slotsUsed } : State).setVm s₂.vm).setTop g).pushFrame (.throwing q) := by
      refine e3.trans ?_
      rw [hf₂, State.calling_eq h.top, State.setFrames_setFrames, State.pushFrame, State.frames_setTop _ hr', State.setTop_of_frames _ hr', State.setFrames_setFrames, hr]
      rfl
    have hsame : U.sameButNew ({ U with heap := s₂.heap, slotsUsed := s₂.slotsUsed } : State) L mc ms := by
      refine ⟨?_, q2, q3, q4, q5, q6⟩
      obtain ⟨t, ht, -⟩ := State.frames_cons hr
      show ({ U with heap := s₂.heap, slotsUsed := s₂.slotsUsed } : State) = { U.setFrames U.frames with heap := s₂.heap, slotsUsed := s₂.slotsUsed }
      rw [State.setFrames_self ht]
    subst hg
    refine Or.inr ⟨q, ⟨(({ U with heap := s₂.heap, slotsUsed := s₂.slotsUsed } : State).setVm s₂.vm), Ls ++ L, c0 + mc, s0 + ms⟩,
      ⟨X.admits, X.cas, X.clock, X.frames, X.room, X.hears, X.method, X.code, (X.here.setHeapUsed s₂.heap s₂.slotsUsed).setVm hW'.alike, X.tail, State.WarmedH.trans X.warmed hW', X.limits, X.bytes, X.same.trans (hsame.setVm s.vm)⟩,
      ⟨g, mk, s₂, L, E, ce, rfl, rfl, hx, hce, hcv, hcl, rfl, hL, rfl, rfl⟩, ?_⟩
    show Steps p.tables e below _ (((({ U with heap := s₂.heap, slotsUsed := s₂.slotsUsed } : State).setVm s₂.vm).setTop g).pushFrame (.throwing q))
    rw [← hs₂]
    exact hsteps
end
variable {p : Program} {l : Launch} {e : Env} {R : Room} {s : State} {m : MethodId} {args : Array Value} {below : List Frame} {meth : Method} {c : Code} {T : State} {H : Heap} {locs : List Loc} {cells slots : Nat}
theorem vx_callVX (X : Stand p l e R s m args below meth c T locs cells slots) (hexec : p.tables.exec = Jvm.exec) {own C : String} {index : Nat} {y : MethodName} {bytes : ByteArray} {maxL : Nat} {ret : Option FieldType} {hh : List (Nat × Nat × Nat × Nat)}
    (hown : s.vm.findClass own = some m.cls) (hlink : (Cond.methodLink own index y).before args s = true) (hinst : (Cond.instanceMethod y).before args s = true) (hsel : (Cond.selects C y y).before args s = true)
    (hcode : (Cond.codeWith y bytes maxL ret hh).before args s = true) (hy : y.cls ≠ "java/lang/invoke/MethodHandle" ∧ y.cls ≠ "java/lang/invoke/VarHandle")
    {W9 : Nat} {Pre : Pt → Array Value → Prop} {Post : Pt → Array Value → Option Value → Pt → Prop} {PostX : Pt → Array Value → Addr → Pt → Prop} (hK : vx_Back l R p e below s args y 3 W9 Pre Post PostX)
    {b : Addr} {cellB : Cell} (hcell : T.heap[b]? = some cellB) (hobj : cellB.vm.isStatics = false) (hcls : s.vm.findClass C = some cellB.cls)
    {g : JFrame} (hg : g.method = m) (hsize : g.locals.size = c.maxLocals) {argsL rest : List Value} (hlen : ∀ sig, parseMethodDescriptor y.desc = some sig → argsL.length = sig.parameters.length)
    (hstack : g.stack = argsL.reverse ++ .ref b :: rest) (hW : 2 * g.monitorRoom + (rest.map fun v => v.category).sum ≤ W9) (hdg : decode c.code g.pc = .ok (.invokevirtual index, 3))
    (hpre : ∀ vm₁, s.WarmedH vm₁ → Pre ⟨T.setVm vm₁, locs, cells, slots⟩ (Value.ref b :: argsL).toArray) :
    (∃ (v : Option Value) (vm₁ : Vm) (B : Pt), s.WarmedH vm₁ ∧ Stand p l e R s m args below meth c B.U B.locs B.cells B.slots ∧ Post ⟨T.setVm vm₁, locs, cells, slots⟩ (Value.ref b :: argsL).toArray v B ∧
      ∀ target, Steps p.tables e below (B.U.setTop { g with pc := g.pc + 3, stack := v.toList ++ rest }) target → Steps p.tables e below (T.setTop g) target) ∨
    (∃ (q : Addr) (vm₁ : Vm) (B : Pt), s.WarmedH vm₁ ∧ Stand p l e R s m args below meth c B.U B.locs B.cells B.slots ∧ PostX ⟨T.setVm vm₁, locs, cells, slots⟩ (Value.ref b :: argsL).toArray q B ∧
      Steps p.tables e below (T.setTop g) ((B.U.setTop { g with stack := rest }).pushFrame (.throwing q))) := by
  obtain ⟨mk, methM, hnamed, hmethM, hstM, habM⟩ := Cond.instanceMethod_spec hinst
  obtain ⟨m8, methM', cM, hn8, hmethM', -, -, -, -, -, -, hsigM⟩ := Cond.codeWith_spec hcode
  cases Option.some.inj (hn8.symm.trans hnamed)
  cases hmethM.symm.trans hmethM'
  obtain ⟨c2, r2, m2, q1, q2, q3, q4, kP, hkP, hkPi⟩ := Cond.selects_spec hsel
  cases hcls.symm.trans q1
  cases (State.methodFound?_of_named hnamed hy).symm.trans q2
  cases hnamed.symm.trans q3
  have hselP : selectMethod e.platform s.vm cellB.cls mk = .method mk := by rw [Launch.admits_selectMethod X.admits]; exact q4
  obtain ⟨vm₁, X₁, hstep₁⟩ := X.invokevirtual hexec hown hlink hnamed hmethM hstM hkP hkPi hy (a := b) (cell := cellB) hcell
    (fun z h => by rw [h] at hobj; cases hobj) hselP hmethM habM hkP hkPi (g := g) hg (argsL := argsL) (rest := rest) (hlen _ hsigM) hstack hdg
  rcases hK m meth c ⟨T.setVm vm₁, locs, cells, slots⟩ { g with stack := rest } (.invokevirtual index) mk (Value.ref b :: argsL).toArray X₁ hg hsize hdg hW (X₁.named hnamed) (hpre vm₁ X₁.warmed) with ⟨v, B, X', hpost, hsteps⟩ | ⟨q, B, X', hpost, hsteps⟩
  · exact Or.inl ⟨v, vm₁, B, X₁.warmed, X', hpost, fun target h => hstep₁ _ fun acts => by rw [doInvoke_state]; exact hsteps.trans h⟩
  · exact Or.inr ⟨q, vm₁, B, X₁.warmed, X', hpost, hstep₁ _ fun acts => by rw [doInvoke_state]; exact hsteps⟩
theorem vx_callSX (X : Stand p l e R s m args below meth c T locs cells slots) (hexec : p.tables.exec = Jvm.exec) {own : String} {index : Nat} {y : MethodName} {bytes : ByteArray} {maxL : Nat} {ret : Option FieldType} {hh : List (Nat × Nat × Nat × Nat)}
    (hown : s.vm.findClass own = some m.cls) (hlink : (Cond.methodLink own index y).before args s = true) (hstat : (Cond.static y).before args s = true) (hinit : (Cond.initialized y.cls).before args s = true)
    (hcode : (Cond.codeWith y bytes maxL ret hh).before args s = true) (hy : y.cls ≠ "java/lang/invoke/MethodHandle" ∧ y.cls ≠ "java/lang/invoke/VarHandle")
    {W9 : Nat} {Pre : Pt → Array Value → Prop} {Post : Pt → Array Value → Option Value → Pt → Prop} {PostX : Pt → Array Value → Addr → Pt → Prop} (hK : vx_Back l R p e below s args y 3 W9 Pre Post PostX)
    {g : JFrame} (hg : g.method = m) (hsize : g.locals.size = c.maxLocals) {argsL rest : List Value} (hlen : ∀ sig, parseMethodDescriptor y.desc = some sig → argsL.length = sig.parameters.length)
    (hstack : g.stack = argsL.reverse ++ rest) (hW : 2 * g.monitorRoom + (rest.map fun v => v.category).sum ≤ W9) (hdg : decode c.code g.pc = .ok (.invokestatic index, 3))
    (hpre : ∀ vm₁, s.WarmedH vm₁ → Pre ⟨T.setVm vm₁, locs, cells, slots⟩ argsL.toArray) :
    (∃ (v : Option Value) (vm₁ : Vm) (B : Pt), s.WarmedH vm₁ ∧ Stand p l e R s m args below meth c B.U B.locs B.cells B.slots ∧ Post ⟨T.setVm vm₁, locs, cells, slots⟩ argsL.toArray v B ∧
      ∀ target, Steps p.tables e below (B.U.setTop { g with pc := g.pc + 3, stack := v.toList ++ rest }) target → Steps p.tables e below (T.setTop g) target) ∨
    (∃ (q : Addr) (vm₁ : Vm) (B : Pt), s.WarmedH vm₁ ∧ Stand p l e R s m args below meth c B.U B.locs B.cells B.slots ∧ PostX ⟨T.setVm vm₁, locs, cells, slots⟩ argsL.toArray q B ∧
      Steps p.tables e below (T.setTop g) ((B.U.setTop { g with stack := rest }).pushFrame (.throwing q))) := by
  obtain ⟨mk, methM, cM, hnamed, hmethM, -, -, -, -, -, -, hsigM⟩ := Cond.codeWith_spec hcode
  have hstatic : methM.isStatic = true := Cond.static_spec hnamed hmethM hstat
  obtain ⟨kP, hkP, -⟩ := className_of_methodNamed hnamed
  have hinitP : kP.init = .initialized := Cond.initialized_spec (findClass_of_methodNamed hnamed) hkP hinit
  obtain ⟨vm₁, X₁, hstep₁⟩ := X.invokestatic hexec hown hlink hnamed hmethM hstatic hkP hinitP hy (g := g) hg (argsL := argsL) (rest := rest) (hlen _ hsigM) hstack hdg
  rcases hK m meth c ⟨T.setVm vm₁, locs, cells, slots⟩ { g with stack := rest } (.invokestatic index) mk argsL.toArray X₁ hg hsize hdg hW (X₁.named hnamed) (hpre vm₁ X₁.warmed) with ⟨v, B, X', hpost, hsteps⟩ | ⟨q, B, X', hpost, hsteps⟩
  · exact Or.inl ⟨v, vm₁, B, X₁.warmed, X', hpost, fun target h => hstep₁ _ fun acts => by rw [doInvoke_state]; exact hsteps.trans h⟩
  · exact Or.inr ⟨q, vm₁, B, X₁.warmed, X', hpost, hstep₁ _ fun acts => by rw [doInvoke_state]; exact hsteps⟩
theorem vx_callVW (X : Stand p l e R s m args below meth c T locs cells slots) (hexec : p.tables.exec = Jvm.exec) {own C : String} {index : Nat} {y : MethodName} {bytes : ByteArray} {maxL : Nat} {ret : Option FieldType} {hh : List (Nat × Nat × Nat × Nat)}
    (hown : s.vm.findClass own = some m.cls) (hlink : (Cond.methodLink own index y).before args s = true) (hinst : (Cond.instanceMethod y).before args s = true) (hsel : (Cond.selects C y y).before args s = true)
    (hcode : (Cond.codeWith y bytes maxL ret hh).before args s = true) (hy : y.cls ≠ "java/lang/invoke/MethodHandle" ∧ y.cls ≠ "java/lang/invoke/VarHandle")
    {W9 : Nat} {Pre : Pt → Array Value → Prop} {Post : Pt → Array Value → Option Value → Pt → Prop} (hK : Back l R p e below s args y 3 W9 Pre Post)
    {b : Addr} {cellB : Cell} (hcell : T.heap[b]? = some cellB) (hobj : cellB.vm.isStatics = false) (hcls : s.vm.findClass C = some cellB.cls)
    {g : JFrame} (hg : g.method = m) (hsize : g.locals.size = c.maxLocals) {argsL rest : List Value} (hlen : ∀ sig, parseMethodDescriptor y.desc = some sig → argsL.length = sig.parameters.length)
    (hstack : g.stack = argsL.reverse ++ .ref b :: rest) (hW : 2 * g.monitorRoom + (rest.map fun v => v.category).sum ≤ W9) (hdg : decode c.code g.pc = .ok (.invokevirtual index, 3))
    (hpre : ∀ vm₁, s.WarmedH vm₁ → Pre ⟨T.setVm vm₁, locs, cells, slots⟩ (Value.ref b :: argsL).toArray) :
    ∃ (v : Option Value) (vm₁ : Vm) (B : Pt), s.WarmedH vm₁ ∧ Stand p l e R s m args below meth c B.U B.locs B.cells B.slots ∧ Post ⟨T.setVm vm₁, locs, cells, slots⟩ (Value.ref b :: argsL).toArray v B ∧
      ∀ target, Steps p.tables e below (B.U.setTop { g with pc := g.pc + 3, stack := v.toList ++ rest }) target → Steps p.tables e below (T.setTop g) target := by
  obtain ⟨mk, methM, hnamed, hmethM, hstM, habM⟩ := Cond.instanceMethod_spec hinst
  obtain ⟨m8, methM', cM, hn8, hmethM', -, -, -, -, -, -, hsigM⟩ := Cond.codeWith_spec hcode
  cases Option.some.inj (hn8.symm.trans hnamed)
  cases hmethM.symm.trans hmethM'
  obtain ⟨c2, r2, m2, q1, q2, q3, q4, kP, hkP, hkPi⟩ := Cond.selects_spec hsel
  cases hcls.symm.trans q1
  cases (State.methodFound?_of_named hnamed hy).symm.trans q2
  cases hnamed.symm.trans q3
  have hselP : selectMethod e.platform s.vm cellB.cls mk = .method mk := by rw [Launch.admits_selectMethod X.admits]; exact q4
  obtain ⟨vm₁, X₁, hstep₁⟩ := X.invokevirtual hexec hown hlink hnamed hmethM hstM hkP hkPi hy (a := b) (cell := cellB) hcell
    (fun z h => by rw [h] at hobj; cases hobj) hselP hmethM habM hkP hkPi (g := g) hg (argsL := argsL) (rest := rest) (hlen _ hsigM) hstack hdg
  obtain ⟨v, B, X', hpost, hsteps⟩ := hK m meth c ⟨T.setVm vm₁, locs, cells, slots⟩ { g with stack := rest } (.invokevirtual index) mk (Value.ref b :: argsL).toArray X₁ hg hsize hdg hW (X₁.named hnamed) (hpre vm₁ X₁.warmed)
  exact ⟨v, vm₁, B, X₁.warmed, X', hpost, fun target h => hstep₁ _ fun acts => by rw [doInvoke_state]; exact hsteps.trans h⟩
abbrev vx_CVW (R : Room) (s : State) (args : Array Value) (own C : String) (index : Nat) (y : MethodName) (bytes : ByteArray) (maxL : Nat) (ret : Option FieldType) (hh : List (Nat × Nat × Nat × Nat)) (ws : List Cond) (rm : Room) (mc ms n : Nat) : Prop :=
  (rm.cells = mc ∧ rm.slots = ms ∧ rm.frames + 1 ≤ R.frames ∧ 8 + (maxL + 11) + rm.locals ≤ R.locals ∧ (∀ w ∈ ws, ∀ (a' : Array Value) (U : State), s.WarmedH U.vm → w.before a' U = true) ∧ Cond.codeWith y bytes maxL ret hh ∈ ws) ∧
  (Cond.codeWith y bytes maxL ret hh).before args s = true ∧ (Cond.initialized y.cls).before args s = true ∧ (y.cls ≠ "java/lang/invoke/MethodHandle" ∧ y.cls ≠ "java/lang/invoke/VarHandle") ∧
  (∀ sig, parseMethodDescriptor y.desc = some sig → n = sig.parameters.length) ∧ (Cond.methodLink own index y).before args s = true ∧ (Cond.instanceMethod y).before args s = true ∧ (Cond.selects C y y).before args s = true
theorem vx_cwVW {own C : String} {index maxL mc ms : Nat} {y : MethodName} {bytes : ByteArray} {ret : Option FieldType} {hh : List (Nat × Nat × Nat × Nat)} {Ts ws ws' : List Cond} {rm : Room} (n : Nat) (ht : ∀ w ∈ Ts, w.before args s = true) (hT : GoodIn Ts (wsV own index C y ws)) (hw : ws = Cond.codeWith y bytes maxL ret hh :: ws') (hrc : rm.cells = mc) (hrs : rm.slots = ms)
    (hd : y.cls = C ∧ y.cls ≠ "java/lang/invoke/MethodHandle" ∧ y.cls ≠ "java/lang/invoke/VarHandle" ∧ (parseMethodDescriptor y.desc).map (fun d => d.parameters.length) = some n) (hR : rm.frames + 1 ≤ R.frames ∧ 8 + (maxL + 11) + rm.locals ≤ R.locals) :
    vx_CVW R s args own C index y bytes maxL ret hh ws rm mc ms n := by
  obtain ⟨hC, hd⟩ := hd
  subst hC
  have ok : ∀ w ∈ wsV own index y.cls y ws, w.before args s = true := fun w h => ht w (hT w h).1
  have hG : GoodIn Ts ws := fun w h => hT w (by unfold wsV; exact List.mem_append_right _ h)
  have hc : Cond.codeWith y bytes maxL ret hh ∈ ws := by rw [hw]; exact List.mem_cons_self
  refine ⟨⟨hrc, hrs, hR.1, hR.2, pay_in ht hG, hc⟩, ht _ (hG _ hc).1, ok _ (by simp [wsV]), ⟨hd.1, hd.2.1⟩, fun sig h => ?_, ok _ (by simp [wsV]), ok _ (by simp [wsV]), ok _ (by simp [wsV])⟩
  have h2 := hd.2.2
  rw [h] at h2
  exact (Option.some.inj h2).symm
theorem vx_runVW {y : MethodName} {bytes cc : ByteArray} {maxL nL mc ms n index : Nat} {ret : Option FieldType} {hh : List (Nat × Nat × Nat × Nat)} {ws : List Cond} {rm : Room} {Pc : Array Value → State → Prop} {Qc : Array Value → State → Outcome → State → Prop} {free : Addr → Prop} {Ts : List Cond} {own C : String} {b : Addr} {As rest : List Value} {g : JFrame}
    (S : CallFix p m c cc nL s args Ts own) (hM : Met l y ws rm Pc Qc mc ms free) (cw : vx_CVW R s args own C index y bytes maxL ret hh ws rm mc ms n) (hp : PreV s H C b Pc As)
    (hg : g.method = m) (hn : As.length = n) (hsize : g.locals.size = nL) (hstack : g.stack = As.reverse ++ .ref b :: rest) (hW : 2 * g.monitorRoom + (rest.map fun v => v.category).sum ≤ 8) (hdg : decode cc g.pc = .ok (.invokevirtual index, 3)) (hf : cells + mc ≤ R.cells ∧ slots + ms ≤ R.slots) :
    va_Run p l e R s m args below meth c H locs cells slots mc ms g rest (Qc (Value.ref b :: As).toArray) free := by
  obtain ⟨⟨hrc, hrs, hfr, hlo, hws, hcw⟩, hcode, hini, hy, hlen, hl, hin, hse⟩ := cw
  have hK : Back l R p e below s args y 3 8 (PreOf R mc ms Pc) (PostOf Qc mc ms free) := va_backW (hh := hh) (bytes := bytes) (maxL := maxL) (ret := ret) hM hp.1 hrc hrs hfr hlo hws hcw (fun a' U hW => word_at hW (Or.inl (by first | rfl | simp [Cond.onTables, Cond.keeps, Cond.steady])) hini)
  obtain ⟨hx, hb, hml, ho, -⟩ := S
  obtain ⟨-, ⟨cellB, hcB, hoB, hclB⟩, hPc⟩ := hp
  intro T hT X
  obtain ⟨v, vm₁, ⟨U', l2, c2, s2⟩, hW₁, X', ⟨g', mk, t, L, e1, e2, hq, h1, hL, h2, h3⟩, st⟩ := vx_callVW X hx (C := C) (hh := hh) (bytes := bytes) (maxL := maxL) (ret := ret) ho hl hin hse hcode hy hK (by rw [hT]; exact hcB) hoB hclB hg (hsize.trans hml.symm) (argsL := As) (rest := rest) (fun sig h => hn.trans (hlen sig h)) hstack hW (by rw [hb]; exact hdg)
    (fun vm₁ hW₁ => ⟨hf.1, hf.2, hPc (T.setVm vm₁) hT hW₁⟩)
  dsimp only [Pt.U, Pt.locs, Pt.cells, Pt.slots] at X' e1 e2 h1 h2 h3 st
  subst h1; subst h2; subst h3
  exact ⟨v, (T.setVm vm₁).calling g' mk (Value.ref b :: As).toArray, t, U', L, hT, X', hL, e1, e2, hq, st⟩
section
variable {y : MethodName} {bytes cc : ByteArray} {maxL nL mc ms n index : Nat} {ret : Option FieldType} {ws : List Cond} {rm : Room} {Pc : Array Value → State → Prop} {Qc : Array Value → State → Outcome → State → Prop} {XC : String → State → State → Prop} {free : Addr → Prop} {Ts : List Cond} {own C : String} {b : Addr} {As rest : List Value} {g : JFrame}
theorem vx_runVX {hh : List (Nat × Nat × Nat × Nat)} (S : CallFix p m c cc nL s args Ts own) (hM : vx_Met l y ws rm Pc Qc XC mc ms free) (cw : vx_CVW R s args own C index y bytes maxL ret hh ws rm mc ms n) (hp : PreV s H C b Pc As)
    (hg : g.method = m) (hn : As.length = n) (hsize : g.locals.size = nL) (hstack : g.stack = As.reverse ++ .ref b :: rest) (hW : 2 * g.monitorRoom + (rest.map fun v => v.category).sum ≤ 8) (hdg : decode cc g.pc = .ok (.invokevirtual index, 3)) (hf : cells + mc ≤ R.cells ∧ slots + ms ≤ R.slots) :
    vx_Run p l e R s m args below meth c H locs cells slots mc ms g rest (Qc (Value.ref b :: As).toArray) XC free := by
  obtain ⟨⟨hrc, hrs, hfr, hlo, hws, hcw⟩, hcode, hini, hy, hlen, hl, hin, hse⟩ := cw
  have hK : vx_Back l R p e below s args y 3 8 (PreOf R mc ms Pc) (PostOf Qc mc ms free) (vx_Post XC mc ms free) := vx_backW (hh := hh) (bytes := bytes) (maxL := maxL) (ret := ret) hM hp.1 hrc hrs hfr hlo hws hcw (fun a' U hW => word_at hW (Or.inl (by first | rfl | simp [Cond.onTables, Cond.keeps, Cond.steady])) hini)
  obtain ⟨hx, hb, hml, ho, -⟩ := S
  obtain ⟨-, ⟨cellB, hcB, hoB, hclB⟩, hPc⟩ := hp
  intro T hT X
  rcases vx_callVX X hx (C := C) (hh := hh) (bytes := bytes) (maxL := maxL) (ret := ret) ho hl hin hse hcode hy hK (by rw [hT]; exact hcB) hoB hclB hg (hsize.trans hml.symm) (argsL := As) (rest := rest) (fun sig h => hn.trans (hlen sig h)) hstack hW (by rw [hb]; exact hdg)
    (fun vm₁ hW₁ => ⟨hf.1, hf.2, hPc (T.setVm vm₁) hT hW₁⟩) with ⟨v, vm₁, ⟨U', l2, c2, s2⟩, hW₁, X', ⟨g', mk, t, L, e1, e2, hq, h1, hL, h2, h3⟩, st⟩ | ⟨q, vm₁, ⟨U', l2, c2, s2⟩, hW₁, X', ⟨g', mk, t, L, E, ce, e1, e2, hq, hce, hcv, hcl, h1, hL, h2, h3⟩, st⟩
  · dsimp only [Pt.U, Pt.locs, Pt.cells, Pt.slots] at X' e1 e2 h1 h2 h3 st
    subst h1; subst h2; subst h3
    exact Or.inl ⟨v, (T.setVm vm₁).calling g' mk (Value.ref b :: As).toArray, t, U', L, hT, X', hL, e1, e2, hq, st⟩
  · dsimp only [Pt.U, Pt.locs, Pt.cells, Pt.slots] at X' e1 e2 h1 h2 h3 st hcl
    subst h1; subst h2; subst h3
    exact Or.inr ⟨q, (T.setVm vm₁).calling g' mk (Value.ref b :: As).toArray, t, U', L, E, ce, hT, X', hL, e1, e2, hq, hce, hcv, vx_cls hW₁ hcl, st⟩
theorem vx_runSX {hh : List (Nat × Nat × Nat × Nat)} (S : CallFix p m c cc nL s args Ts own) (hM : vx_Met l y ws rm Pc Qc XC mc ms free) (cw : vx_CSW R s args own index y bytes maxL ret hh ws rm mc ms n) (hp : PreS s H Pc As)
    (hg : g.method = m) (hn : As.length = n) (hsize : g.locals.size = nL) (hstack : g.stack = As.reverse ++ rest) (hW : 2 * g.monitorRoom + (rest.map fun v => v.category).sum ≤ 8) (hdg : decode cc g.pc = .ok (.invokestatic index, 3)) (hf : cells + mc ≤ R.cells ∧ slots + ms ≤ R.slots) :
    vx_Run p l e R s m args below meth c H locs cells slots mc ms g rest (Qc As.toArray) XC free := by
  obtain ⟨⟨hrc, hrs, hfr, hlo, hws, hcw⟩, hcode, hini, hy, hlen, hl, hstt⟩ := cw
  have hK : vx_Back l R p e below s args y 3 8 (PreOf R mc ms Pc) (PostOf Qc mc ms free) (vx_Post XC mc ms free) := vx_backW (hh := hh) (bytes := bytes) (maxL := maxL) (ret := ret) hM hp.1 hrc hrs hfr hlo hws hcw (fun a' U hW => word_at hW (Or.inl (by first | rfl | simp [Cond.onTables, Cond.keeps, Cond.steady])) hini)
  obtain ⟨hx, hb, hml, ho, -⟩ := S
  intro T hT X
  rcases vx_callSX X hx (hh := hh) (bytes := bytes) (maxL := maxL) (ret := ret) ho hl hstt hini hcode hy hK hg (hsize.trans hml.symm) (argsL := As) (rest := rest) (fun sig h => hn.trans (hlen sig h)) hstack hW (by rw [hb]; exact hdg)
    (fun vm₁ hW₁ => ⟨hf.1, hf.2, hp.2 (T.setVm vm₁) hT hW₁⟩) with ⟨v, vm₁, ⟨U', l2, c2, s2⟩, hW₁, X', ⟨g', mk, t, L, e1, e2, hq, h1, hL, h2, h3⟩, st⟩ | ⟨q, vm₁, ⟨U', l2, c2, s2⟩, hW₁, X', ⟨g', mk, t, L, E, ce, e1, e2, hq, hce, hcv, hcl, h1, hL, h2, h3⟩, st⟩
  · dsimp only [Pt.U, Pt.locs, Pt.cells, Pt.slots] at X' e1 e2 h1 h2 h3 st
    subst h1; subst h2; subst h3
    exact Or.inl ⟨v, (T.setVm vm₁).calling g' mk As.toArray, t, U', L, hT, X', hL, e1, e2, hq, st⟩
  · dsimp only [Pt.U, Pt.locs, Pt.cells, Pt.slots] at X' e1 e2 h1 h2 h3 st hcl
    subst h1; subst h2; subst h3
    exact Or.inr ⟨q, (T.setVm vm₁).calling g' mk As.toArray, t, U', L, E, ce, hT, X', hL, e1, e2, hq, hce, hcv, vx_cls hW₁ hcl, st⟩
end
end VXH
theorem vx_ofWH {l : Launch} {y : MethodName} {ws ws' : List Cond} {rm : Room} {Pc : Array Value → State → Prop} {Qc : Array Value → State → Outcome → State → Prop} {XC : String → State → State → Prop} {mc ms : Nat} {free : Addr → Prop} {cc : ByteArray} {maxL : Nat} {ret : Option FieldType} {hh : List (Nat × Nat × Nat × Nat)}
    (hy : plainName y.cls = true) (hw : ws = Cond.codeWith y cc maxL ret hh :: ws')
    (body : ∀ p e s m args below meth c s₁, BodyLoose p l y (headSpec ws rm) cc maxL ret e s m args below meth c s₁ → c.maxLocals = maxL → Pc args s →
      W p l e (headSpec ws rm).room s m args below meth c s.heap [] 0 0 (vx_MQ below Qc XC args s mc ms free) (entryFrame m args maxL)) : vx_Met l y ws rm Pc Qc XC mc ms free := by
  refine MetFree.of_bodyS (code := cc) (maxLocals := maxL) (ret := ret) hy ?_ ?_
  · intro args s m h hn
    obtain ⟨m9, meth, c, hn9, h1, h2, h3, h4, -, h5, h6, -⟩ := Cond.codeWith_spec (atoms_spec (ws := ws) h _ (by rw [hw]; exact List.mem_cons_self))
    cases hn.symm.trans hn9
    exact ⟨meth, c, h1, h2, h3, h4, h5, h6⟩
  · intro p e s m args below meth c s₁ B hml hP _
    have hh0 : s₁.heap = s.heap := by rw [B.state]; rfl
    obtain ⟨t, a1, o, b1, b2, b3⟩ := body p e s m args below meth c s₁ B hml hP s₁ hh0 (Stand.of_body B)
    exact ⟨t, o, a1, b1, b2, b3⟩
/-! ===== END ===== -/

/-! ===== BEGIN what the machine throws by itself, no traces kept ===== -/
section VXM
set_option maxHeartbeats 1000000 in
/-- the machine throws cls with the message text, no traces kept: from its note over the frame g to 'throwing' over the same frame (follows the proofs of Stand.vmThrowsMessage, Shelf/KitTracedVmS.lean, and Stand.throwsMessageColdBareV, StandMessageColdV.lean, without the step out of the frame) -/
theorem vx_vmAt {p : Program} {l : Launch} {e : Env} {R : Room} {s : State} {m₀ : MethodId} {args : Array Value} {below : List Frame} {meth : Method} {c : Code} {W : State} {locs : List Loc} {cells slots : Nat}
    (X : Stand p l e R s m₀ args below meth c W locs cells slots) (hexec : p.tables.exec = Jvm.exec) (htr : e.platform.stackTraces = false) {cls : String} {names : List String} {text : String}
    (hcls : Bundle.fit cls = true) (hnames : ∀ n ∈ names, Bundle.fit n = true) (hsoe : (cls == "java/lang/StackOverflowError") = false) (hoom : (cls == "java/lang/OutOfMemoryError") = false)
    (h : ∀ a ∈ Bundle.messageArmAtoms cls names, a.before args s = true)
    (hlocs : ∀ x ∈ locs, ∀ cell, s.heap[x.base]? = some cell → cell.vm.isStatics = false)
    (htext : (text == notModelled) = false) (hlimit : ¬ (stringBytes (stringToUtf16 text)).size > e.platform.arrayLengthLimit) (hheap : ¬ (stringBytes (stringToUtf16 text)).size * componentBytes .byte > e.platform.maxHeapBytes)
    {g : JFrame} (hg : g.method = m₀) (hsize : g.locals.size = c.maxLocals)
    (hRframes : names.length + 4 < R.frames) (hRlocals : 2 * g.monitorRoom + (g.stack.map fun v => v.category).sum + 10240 ≤ R.locals) (hshort : 13 * names.length + 55 ≤ 10240)
    (hRcells : cells + 3 ≤ R.cells) (hRslots : slots + ((stringBytes (stringToUtf16 text)).size + 4 + 6) ≤ R.slots) (hlocks : meth.locks = false) :
    ∃ (S : State) (q : Addr) (ce : Cell), (∀ target, Steps p.tables e below ((S.setTop g).pushFrame (.throwing q)) target → Steps p.tables e below ((W.setTop g).pushFrame (.throwNew cls (some text) none)) target) ∧
      Stand p l e R s m₀ args below meth c S locs (cells + 3) (slots + ((stringBytes (stringToUtf16 text)).size + 4 + 6)) ∧ S.heap[q]? = some ce ∧ s.vm.findClass cls = some ce.cls ∧ ce.vm = .none := by
  have howns : e.platform.frameOwnsMonitors = true := by rw [X.admits.platform]
  have hfin : e.platform.finalization = false := by rw [X.admits.platform]
  have hpl : e.platform.magicAccessors = ({} : Platform).magicAccessors := by rw [X.admits.platform]
  have a : ∀ x, x ∈ Bundle.messageArmAtoms cls names → x.holds args s none s [] = true := fun x hx => h x hx
  obtain ⟨T, Z0, L, -, Y⟩ := ThrowableC.of_atoms (args := args) howns hfin hpl (fun x hx => h x (by simp [Bundle.messageArmAtoms, hx]))
  obtain ⟨Z, M, LZ, LM, hnZ⟩ := Init0T.ofS_atoms (args := args) hpl L Y (fun x hx => h x (by simp [Bundle.messageArmAtoms, hx]))
  obtain ⟨P1, Ps, hlen, L1, hL, hP1m, hlink1, hlink⟩ := Bundle.chainS (args := args) hpl hnZ names cls hcls hnames (fun x hx => h x (by simp [Bundle.messageArmAtoms, hx]))
  obtain ⟨Zs, LZs, hn4, hfitv, hfitc⟩ := StringT.of_atoms (args := args) (fun x hx => h x (by simp [Bundle.messageArmAtoms, hx]))
  have hfound : s.vm.findClass cls = some P1.m.cls := findClass_of_methodNamed hP1m
  obtain ⟨c1, kX, hc1, hk, hord, -, -, hn6⟩ := Cond.instantiable_spec (a (.instantiable cls 6) (by simp [Bundle.messageArmAtoms]))
  cases Option.some.inj (hc1.symm.trans hfound)
  have hinit := Cond.initialized_spec hfound hk (a (.initialized cls) (by simp [Bundle.messageArmAtoms]))
  have hctor : kX.findMethod "<init>" "(Ljava/lang/String;)V" = some P1.m.idx := findMethod_of_methodNamed hP1m hk
  have hsel0 : selectMethod e.platform s.vm P1.m.cls T.fill0 = .method T.fill0 := by
    obtain ⟨c2, r2, m2, q1, q2, q3, q4, -⟩ := Cond.selects_spec (a (.selects cls Bundle.tFill0 Bundle.tFill0) (by simp [Bundle.messageArmAtoms]))
    cases Option.some.inj (q1.symm.trans hfound)
    cases Option.some.inj (q2.symm.trans (State.methodFound?_of_named Y.fill0 (by decide)))
    cases Option.some.inj (q3.symm.trans Y.fill0)
    rw [Launch.admits_selectMethod X.admits]; exact q4
  have hselF : selectMethod e.platform s.vm P1.m.cls T.fill = .method T.fill := by
    obtain ⟨c2, r2, m2, q1, q2, q3, q4, -⟩ := Cond.selects_spec (a (.selects cls Bundle.tFill Bundle.tFill) (by simp [Bundle.messageArmAtoms]))
    cases Option.some.inj (q1.symm.trans hfound)
    cases Option.some.inj (q2.symm.trans (State.methodFound?_of_named Y.fill (by decide)))
    cases Option.some.inj (q3.symm.trans Y.fill)
    rw [Launch.admits_selectMethod X.admits]; exact q4
  obtain ⟨cellS0, hcS0, hiss⟩ := Y.statics
  obtain ⟨u0, hu0⟩ := Cond.staticRefV Y.unassigned L.unassignedStatic L.statics hcS0 hiss (a (.isRef (.static Bundle.tN "UNASSIGNED_STACK" Bundle.steD)) (by simp [Bundle.messageArmAtoms]))
  obtain ⟨sen, hsen⟩ := Cond.staticRefV Y.sentinel L.sentinelStatic L.statics hcS0 hiss (a (.isRef (.static Bundle.tN "SUPPRESSED_SENTINEL" Bundle.listD)) (by simp [Bundle.messageArmAtoms]))
  obtain ⟨ci198, i198, fB, hk198, hg198, ha198, hsB, -, hnB, htB, hffB⟩ := Cond.ownField (t := .object "java/lang/Object") Y.found L.cls (by decide +kernel) (a (.fieldLink Bundle.tN 198 Bundle.tN "backtrace" "Ljava/lang/Object;") (by simp [Bundle.messageArmAtoms])) (a (.lays Bundle.tN Bundle.tN "backtrace" "Ljava/lang/Object;") (by simp [Bundle.messageArmAtoms])) e.platform hpl
  obtain ⟨cellS, hcS', heS, -, hkeep⟩ := X.same.2.2.2.2.2 T.aS cellS0 hcS0
  have hcellS : W.heap[T.aS]? = some cellS := hcS'
  have hout' : ∀ i, (⟨T.aS, i⟩ : Loc) ∉ locs := fun i hmem => by
    have := hlocs _ hmem cellS0 hcS0
    rw [hiss] at this; cases this
  have hknownS : cellS.vm ≠ .unknown := by
    rw [heS]; intro hu
    rw [show cellS0.vm = .unknown from hu] at hiss
    cases hiss
  have hvU : cellS.slots[T.fUnassigned.slot]? = some u0.v := by rw [hkeep _ (hout' _)]; exact hu0
  have hvSen : cellS.slots[T.fSentinel.slot]? = some sen.v := by rw [hkeep _ (hout' _)]; exact hsen
  obtain ⟨iM, hffM⟩ := Y.msg
  obtain ⟨tyC, dC, hdC, hdnC⟩ := Cond.laysAt hfound hk Y.cause (a (.lays cls Bundle.tN "cause" "Ljava/lang/Throwable;") (by simp [Bundle.messageArmAtoms]))
  obtain ⟨tyS, dS, hdS, hdnS⟩ := Cond.laysAt hfound hk Y.stack (a (.lays cls Bundle.tN "stackTrace" Bundle.steD) (by simp [Bundle.messageArmAtoms]))
  obtain ⟨tyP, dP, hdP, hdnP⟩ := Cond.laysAt hfound hk Y.supp (a (.lays cls Bundle.tN "suppressedExceptions" Bundle.listD) (by simp [Bundle.messageArmAtoms]))
  obtain ⟨tyM, dM, hdM, hdnM⟩ := Cond.laysAt hfound hk hffM (a (.lays cls Bundle.tN "detailMessage" "Ljava/lang/String;") (by simp [Bundle.messageArmAtoms]))
  obtain ⟨tyB, dB, hdB, hdnB⟩ := Cond.laysAt hfound hk hffB (a (.lays cls Bundle.tN "backtrace" "Ljava/lang/Object;") (by simp [Bundle.messageArmAtoms]))
  have bC := Cond.laysApart hdB hdC hdnB hdnC (by rw [hnB, Y.causeName]; decide)
  have bS := Cond.laysApart hdB hdS hdnB hdnS (by rw [hnB, Y.stackName]; decide)
  have bP := Cond.laysApart hdB hdP hdnB hdnP (by rw [hnB, Y.suppName]; decide)
  have hbk : ((preparedCellV T.toThrowableT (freshCell P1.m.cls kX) (W.heap.size + 2) u0 sen).withEntry W.cur).slots[fB.slot]? = some .null := by
    have := fresh_default (c := P1.m.cls) tyB
    rw [htB] at this
    simpa [preparedCellV, Cell.setSlot, Cell.withEntry, Array.getElem?_setIfInBounds, bC, bS, bP, bC.symm, bS.symm, bP.symm, defaultValue] using this
  have tkC := Takes.of_laid (v := .ref (W.heap.size + 2)) hk hord tyC (by rw [Y.causeType]; rfl)
  have tkS := Takes.of_laid (v := u0.v) hk hord tyS (by rw [Y.stackType]; exact fits_refV_array _ u0)
  have tkP := Takes.of_laid (v := sen.v) hk hord tyP (by rw [Y.suppType]; exact fits_refV_object _ sen)
  have tkM := Takes.of_laid (v := .ref (W.heap.size + 1)) hk hord tyM (by rw [Y.msgType]; rfl)
  have hskip : SkipFacts T e.platform s (fun u => u) u0 ((preparedCellV T.toThrowableT (freshCell P1.m.cls kX) (W.heap.size + 2) u0 sen).withEntry W.cur) := ⟨{ ci198 := ci198, i198 := i198, fBack := fB }, ⟨hk198, hg198, ha198, hsB⟩, hbk, fun _ _ => rfl⟩
  have h0 : At W g.method c below := by rw [hg]; exact X.here
  obtain ⟨hbeyond, hfreeW⟩ := X.vmMayThrow hsize (.throwNew cls (some text) none) (fun f hf => by cases hf) rfl hRlocals
  have hfr' : W.frames.length + Ps.length + 4 < (e.platform.stackLimits W.me).1 := by have := X.framesAbove hRframes; omega
  have hwd' : (stackUse (.java g :: W.frames.tail)).2 + 13 * Ps.length + 55 ≤ (e.platform.stackLimits W.me).2 := by have := X.stackAbove hsize (K := 13 * Ps.length + 55) (by omega); omega
  have hslots : W.slotsUsed + (stringBytes (stringToUtf16 text)).size + Zs.kS.instanceTypes.size + kX.instanceTypes.size ≤ e.platform.maxSlots := by
    have := X.slotsAbove hRslots
    rw [hn4, hn6]
    omega
  obtain ⟨vm', hW', st⟩ := Steps.vmThrowsMessageColdByV p (s₀ := s) (S := W) (g := g) h0 hexec T L Z LZ M LM X.warmed (t := W.cur) rfl Zs LZs P1 L1 Ps hL hlink1 hlink hsoe hoom hfound hk hinit hord hctor
    (Launch.admits_hotImplicitExceptions X.admits) hbeyond hfreeW htext hlimit hheap (X.cellsAbove hRcells) hslots (hfitv _) (hfitc _)
    (Nn := fun u => u) heapOnly_id (fun _ _ => rfl) (fun _ => rfl) (fun u x y => setCell_twice _ _ _ _) (fun _ => Nat.le_refl _) (cN := ((preparedCellV T.toThrowableT (freshCell P1.m.cls kX) (W.heap.size + 2) u0 sen).withEntry W.cur))
    hsel0 hcellS hknownS hvU tkS (fun _ hu => hu) (fun _ hu => hu) rfl rfl rfl (by simp [preparedCellV, Cell.setSlot, Cell.withEntry]) hskip (fun _ _ hA hW _ hroom _ hrest => L.nativeOff p htr hA hW hroom hrest) hselF hvSen tkC tkP tkM Y.objLocals rfl hfr' hwd'
  rw [plainBareV_eq T.toThrowableT (W.heap.size + 2) u0 sen (.ref (W.heap.size + 1)) W.cur rfl rfl] at st
  obtain ⟨-, -, w3, w4, -, -, -⟩ := withThrown_facts e.platform W Zs text P1.m.cls kX
  have X3 := ((X.pushed (bytesOf Zs.cB (stringToUtf16 text))).pushed (stringAt Zs.cS Zs.kS Zs.fv Zs.fc (stringToUtf16 text) W.heap.size)).pushed (freshCell P1.m.cls kX)
  rw [← withString_eq] at X3
  have X4 := X3.noted hW'
  have ha : (W.heap.size + 2) < ((withThrown W Zs text P1.m.cls kX).setVm vm').heap.size := by show _ < (withThrown W Zs text P1.m.cls kX).heap.size; rw [w3]; omega
  have hcell : ((withThrown W Zs text P1.m.cls kX).setVm vm').heap[(W.heap.size + 2)]? = some (freshCell P1.m.cls kX) := w4
  have X5 := ((((X4.stored hcell T.fCause.slot (.ref (W.heap.size + 2))).storedAgain ha T.fStack.slot u0.v).storedAgain ha T.fSupp.slot sen.v).storedAgain ha T.fStack.slot u0.v).storedAgain ha T.fMsg.slot (.ref (W.heap.size + 1))
  obtain ⟨g₁, hfrM⟩ := X5.frames_eq
  have hU : ((((withThrown W Zs text P1.m.cls kX).setVm vm').setCell (W.heap.size + 2) (plainBareV T.toThrowableT (freshCell P1.m.cls kX) (W.heap.size + 2) u0 sen (.ref (W.heap.size + 1)))).setTop g).pushFrame (.throwing (W.heap.size + 2)) = (((withThrown W Zs text P1.m.cls kX).setVm vm').setCell (W.heap.size + 2) (plainBareV T.toThrowableT (freshCell P1.m.cls kX) (W.heap.size + 2) u0 sen (.ref (W.heap.size + 1)))).setFrames (.throwing (W.heap.size + 2) :: .java g :: below) := by
    rw [State.pushFrame, State.frames_setTop _ hfrM, State.setTop_of_frames _ hfrM, State.setFrames_setFrames]
  have b1 : (bytesOf Zs.cB (stringToUtf16 text)).slots.size = (stringBytes (stringToUtf16 text)).size := by
    rw [(Cell.writeAll_facts _ _).2.2]; simp [bytes0]
  have b2 : (stringAt Zs.cS Zs.kS Zs.fv Zs.fc (stringToUtf16 text) W.heap.size).slots.size = 4 := by simp [string0, Cell.setSlot, hn4]
  have b3 : (freshCell P1.m.cls kX).slots.size = 6 := by simp [hn6]
  rw [b1, b2, b3] at X5
  have e9 : slots + (stringBytes (stringToUtf16 text)).size + 4 + 6 = slots + ((stringBytes (stringToUtf16 text)).size + 4 + 6) := by omega
  rw [e9] at X5
  simp only [List.append_assoc, List.cons_append, List.nil_append] at X5
  refine ⟨((withThrown W Zs text P1.m.cls kX).setVm vm').setCell (W.heap.size + 2) (plainBareV T.toThrowableT (freshCell P1.m.cls kX) (W.heap.size + 2) u0 sen (.ref (W.heap.size + 1))), W.heap.size + 2, _, fun target ht => st _ (by rw [X.tail, ← hU]; exact ht),
    X5.forget (fun y hy => ?_), heapAt_setCell_self _ ha, hfound, rfl⟩
  simp only [List.mem_cons, List.not_mem_nil, or_false] at hy
  have hge : s.heap.size ≤ W.heap.size := X.same.2.1
  rcases hy with rfl | rfl | rfl | rfl | rfl <;> exact Nat.le_trans hge (Nat.le_add_right _ 2)
set_option maxHeartbeats 1000000 in
/-- the machine throws NullPointerException, no traces kept: from its note over the frame g to 'throwing' over the same frame (follows the proof of Stand.vmThrowsNpe, Shelf42/KT2.lean; throwsNpeColdBareVAt, Shelf42/NT91.lean, called) -/
theorem vx_npeAt {p : Program} {l : Launch} {e : Env} {R : Room} {s : State} {m₀ : MethodId} {args : Array Value} {below : List Frame} {meth : Method} {c : Code} {W : State} {locs : List Loc} {cells slots : Nat}
    (X : Stand p l e R s m₀ args below meth c W locs cells slots) (hexec : p.tables.exec = Jvm.exec) (htr : e.platform.stackTraces = false) {n : Nat}
    (h : ∀ a ∈ Bundle.npeArmAtoms n, a.before args s = true)
    (hlocs : ∀ x ∈ locs, ∀ cell, s.heap[x.base]? = some cell → cell.vm.isStatics = false)
    {g : JFrame} (hg : g.method = m₀) (hsize : g.locals.size = c.maxLocals)
    (hRframes : 7 < R.frames) (hRlocals : 2 * g.monitorRoom + (g.stack.map fun v => v.category).sum + 10240 ≤ R.locals)
    (hRcells : cells + 1 ≤ R.cells) (hRslots : slots + n ≤ R.slots) (hlocks : meth.locks = false) :
    ∃ (S : State) (q : Addr) (ce : Cell), (∀ target, Steps p.tables e below ((S.setTop g).pushFrame (.throwing q)) target → Steps p.tables e below ((W.setTop g).pushFrame (.throwNew "java/lang/NullPointerException" none none)) target) ∧
      Stand p l e R s m₀ args below meth c S locs (cells + 1) (slots + n) ∧ S.heap[q]? = some ce ∧ s.vm.findClass "java/lang/NullPointerException" = some ce.cls ∧ ce.vm = .none := by
  have howns : e.platform.frameOwnsMonitors = true := by rw [X.admits.platform]
  have hfin : e.platform.finalization = false := by rw [X.admits.platform]
  have hpl : e.platform.magicAccessors = ({} : Platform).magicAccessors := by rw [X.admits.platform]
  have hpl2 : e.platform.arrayCloneIsPublic = true := by rw [X.admits.platform]
  have a' : ∀ x, x ∈ Bundle.npeArmAtoms n → x.holds args s none s [] = true := fun x hx => h x hx
  obtain ⟨T, Z, L, LZ, Y⟩ := ThrowableC.of_atoms (args := args) howns hfin hpl (fun x hx => h x (by simp [Bundle.npeArmAtoms, hx]))
  obtain ⟨N, LN, hcN, hnNF, hordN, hffS⟩ := NpeC.of_atoms (args := args) hpl hpl2 L Y (fun x hx => h x (by simp [Bundle.npeArmAtoms, hx]))
  obtain ⟨P1, L1, hP1m, hP1s⟩ := PassC.of_atoms (args := args) (s := s) hpl (X := Bundle.nN) (Y := Bundle.rN) (by decide) (by decide) LibCode.NullPointerException.Init0.at_0 LibCode.NullPointerException.Init0.at_1 LibCode.NullPointerException.Init0.at_4 (fun x hx => h x (by simp [Bundle.npeArmAtoms, hx]))
  obtain ⟨PR, LR, hPRm, hPRs⟩ := PassC.of_atoms (args := args) (s := s) hpl (X := Bundle.rN) (Y := Bundle.eN) (by decide) (by decide) LibCode.RuntimeException.Init0.at_0 LibCode.RuntimeException.Init0.at_1 LibCode.RuntimeException.Init0.at_4 (fun x hx => h x (by simp [Bundle.npeArmAtoms, hx]))
  obtain ⟨PE, LEx, hPEm, hPEs⟩ := PassC.of_atoms (args := args) (s := s) hpl (X := Bundle.eN) (Y := Bundle.tN) (by decide) (by decide) LibCode.Exception.Init0.at_0 LibCode.Exception.Init0.at_1 LibCode.Exception.Init0.at_4 (fun x hx => h x (by simp [Bundle.npeArmAtoms, hx]))
  have hfound : s.vm.findClass Bundle.nN = some P1.m.cls := findClass_of_methodNamed hP1m
  have ecls : N.cN = P1.m.cls := Option.some.inj (hcN.symm.trans hfound)
  have hk : s.vm.classes[P1.m.cls]? = some N.kN := by rw [← ecls]; exact LN.cls
  have hinit := Cond.initialized_spec hfound hk (a' (.initialized Bundle.nN) (by simp [Bundle.npeArmAtoms]))
  have hctor : N.kN.findMethod "<init>" "()V" = some P1.m.idx := findMethod_of_methodNamed hP1m hk
  obtain ⟨c1, k1, hc1, hk1, -, -, -, hn⟩ := Cond.instantiable_spec (a' (.instantiable Bundle.nN n) (by simp [Bundle.npeArmAtoms]))
  cases Option.some.inj (hc1.symm.trans hfound)
  cases Option.some.inj (hk1.symm.trans hk)
  have hfsz : (freshCell P1.m.cls N.kN).slots.size = n := by simp [hn]
  have hlink1 : P1.sup = PR.m := Option.some.inj (hP1s.symm.trans hPRm)
  have hlinkR : PR.sup = PE.m := Option.some.inj (hPRs.symm.trans hPEm)
  have hlinkE : PE.sup = Z.m T.toThrowableT := Option.some.inj (hPEs.symm.trans Y.init0)
  have hLs : ∀ P, P ∈ [PR, PE] → P.Links0 e.platform s := fun P hP => by
    simp only [List.mem_cons, List.not_mem_nil, or_false] at hP
    rcases hP with rfl | rfl
    · exact LR
    · exact LEx
  have hsel0 : selectMethod e.platform s.vm P1.m.cls T.fill0 = .method T.fill0 := by
    obtain ⟨c2, r2, m2, q1, q2, q3, q4, -⟩ := Cond.selects_spec (a' (.selects Bundle.nN Bundle.tFill0 Bundle.tFill0) (by simp [Bundle.npeArmAtoms]))
    cases Option.some.inj (q1.symm.trans hfound)
    cases Option.some.inj (q2.symm.trans (State.methodFound?_of_named Y.fill0 (by decide)))
    cases Option.some.inj (q3.symm.trans Y.fill0)
    rw [Launch.admits_selectMethod X.admits]; exact q4
  have hselF : selectMethod e.platform s.vm P1.m.cls T.fill = .method N.fill := by
    obtain ⟨c2, r2, m2, q1, q2, q3, q4, -⟩ := Cond.selects_spec (a' (.selects Bundle.nN Bundle.tFill Bundle.nFill) (by simp [Bundle.npeArmAtoms]))
    cases Option.some.inj (q1.symm.trans hfound)
    cases Option.some.inj (q2.symm.trans (State.methodFound?_of_named Y.fill (by decide)))
    cases Option.some.inj (q3.symm.trans hnNF)
    rw [Launch.admits_selectMethod X.admits]; exact q4
  obtain ⟨cellS0, hcS0, hiss⟩ := Y.statics
  obtain ⟨u0, hu0⟩ := Cond.staticRefV Y.unassigned L.unassignedStatic L.statics hcS0 hiss (a' (.isRef (.static Bundle.tN "UNASSIGNED_STACK" Bundle.steD)) (by simp [Bundle.npeArmAtoms]))
  obtain ⟨sen, hsen⟩ := Cond.staticRefV Y.sentinel L.sentinelStatic L.statics hcS0 hiss (a' (.isRef (.static Bundle.tN "SUPPRESSED_SENTINEL" Bundle.listD)) (by simp [Bundle.npeArmAtoms]))
  obtain ⟨ci198, i198, fB, hk198, hg198, ha198, hsB, -, hnB, htB, hffB⟩ := Cond.ownField (t := .object "java/lang/Object") Y.found L.cls (by decide +kernel) (a' (.fieldLink Bundle.tN 198 Bundle.tN "backtrace" Bundle.objD) (by simp [Bundle.npeArmAtoms])) (a' (.lays Bundle.tN Bundle.tN "backtrace" Bundle.objD) (by simp [Bundle.npeArmAtoms])) e.platform hpl
  obtain ⟨cellS, hcS', heS, -, hkeep⟩ := X.same.2.2.2.2.2 T.aS cellS0 hcS0
  have hcellS : W.heap[T.aS]? = some cellS := hcS'
  have hout' : ∀ i, (⟨T.aS, i⟩ : Loc) ∉ locs := fun i hmem => by
    have := hlocs _ hmem cellS0 hcS0
    rw [hiss] at this; cases this
  have hknownS : cellS.vm ≠ .unknown := by
    rw [heS]; intro hu
    rw [show cellS0.vm = .unknown from hu] at hiss
    cases hiss
  have hvU : cellS.slots[T.fUnassigned.slot]? = some u0.v := by rw [hkeep _ (hout' _)]; exact hu0
  have hvSen : cellS.slots[T.fSentinel.slot]? = some sen.v := by rw [hkeep _ (hout' _)]; exact hsen
  obtain ⟨tyC, dC, hdC, hdnC⟩ := Cond.laysAt hfound hk Y.cause (a' (.lays Bundle.nN Bundle.tN "cause" "Ljava/lang/Throwable;") (by simp [Bundle.npeArmAtoms]))
  obtain ⟨tyS, dS, hdS, hdnS⟩ := Cond.laysAt hfound hk Y.stack (a' (.lays Bundle.nN Bundle.tN "stackTrace" Bundle.steD) (by simp [Bundle.npeArmAtoms]))
  obtain ⟨tyP, dP, hdP, hdnP⟩ := Cond.laysAt hfound hk Y.supp (a' (.lays Bundle.nN Bundle.tN "suppressedExceptions" Bundle.listD) (by simp [Bundle.npeArmAtoms]))
  obtain ⟨tyX, dX, hdX, hdnX⟩ := Cond.laysAt hfound hk hffS (a' (.lays Bundle.nN Bundle.nN "extendedMessageState" "I") (by simp [Bundle.npeArmAtoms, Bundle.npeAtoms]))
  obtain ⟨hnX, htX⟩ := State.fieldFound?_type hffS (t := .int) (by decide +kernel)
  have xC := Cond.laysApart hdC hdX hdnC hdnX (by rw [hnX, Y.causeName]; decide)
  have xS := Cond.laysApart hdS hdX hdnS hdnX (by rw [hnX, Y.stackName]; decide)
  have xP := Cond.laysApart hdP hdX hdnP hdnX (by rw [hnX, Y.suppName]; decide)
  have hv0 : (freshCell P1.m.cls N.kN).slots[N.fState.slot]? = some (.int 0) := by
    have := fresh_default (c := P1.m.cls) tyX
    rw [htX] at this; exact this
  obtain ⟨tyB, dB, hdB, hdnB⟩ := Cond.laysAt hfound hk hffB (a' (.lays Bundle.nN Bundle.tN "backtrace" Bundle.objD) (by simp [Bundle.npeArmAtoms]))
  have bC := Cond.laysApart hdB hdC hdnB hdnC (by rw [hnB, Y.causeName]; decide)
  have bS := Cond.laysApart hdB hdS hdnB hdnS (by rw [hnB, Y.stackName]; decide)
  have bP := Cond.laysApart hdB hdP hdnB hdnP (by rw [hnB, Y.suppName]; decide)
  have bX := Cond.laysApart hdB hdX hdnB hdnX (by rw [hnB, hnX]; decide)
  have hbk : ((npeCell N.toNpeT (preparedCellV T.toThrowableT (freshCell P1.m.cls N.kN) W.heap.size u0 sen) W.cur).withEntry W.cur).slots[fB.slot]? = some .null := by
    have := fresh_default (c := P1.m.cls) tyB
    rw [htB] at this
    simpa [npeCell, preparedCellV, Cell.setSlot, Cell.withEntry, Array.getElem?_setIfInBounds, bC, bS, bP, bX, bC.symm, bS.symm, bP.symm, bX.symm, defaultValue] using this
  have tkC := Takes.of_laid (v := .ref W.heap.size) hk hordN tyC (by rw [Y.causeType]; rfl)
  have tkS := Takes.of_laid (v := u0.v) hk hordN tyS (by rw [Y.stackType]; exact fits_refV_array _ u0)
  have tkP := Takes.of_laid (v := sen.v) hk hordN tyP (by rw [Y.suppType]; exact fits_refV_object _ sen)
  have tkX := Takes.of_laid (v := .int 1) hk hordN tyX (by rw [htX]; rfl)
  have hskip : SkipFacts T e.platform s (fun u => u) u0 ((npeCell N.toNpeT (preparedCellV T.toThrowableT (freshCell P1.m.cls N.kN) W.heap.size u0 sen) W.cur).withEntry W.cur) := ⟨{ ci198 := ci198, i198 := i198, fBack := fB }, ⟨hk198, hg198, ha198, hsB⟩, hbk, fun _ _ => rfl⟩
  obtain ⟨vm', X3, st, -⟩ := X.throwsNpeColdBareVAt hexec hg hsize T L Z LZ N LN P1 L1 [PR, PE] hLs hlink1 ⟨hlinkR, hlinkE, trivial⟩ hfound hk hinit hordN hctor hsel0 hselF hcellS hknownS hvU hvSen
    hv0 xC xS xP tkC tkS tkP tkX Y.objLocals hskip (fun _ _ hA hW _ hroom _ hrest => L.nativeOff p htr hA hW hroom hrest) (by simpa using hRframes) hRlocals (by simp) hRcells (by rw [hn]; exact hRslots)
  have hlt : W.heap.size < ((W.pushCell (freshCell P1.m.cls N.kN)).setVm vm').heap.size := by
    show W.heap.size < (W.pushCell (freshCell P1.m.cls N.kN)).heap.size
    rw [State.heap_size_pushCell]; omega
  rw [hfsz] at X3
  obtain ⟨g₁, hfrM⟩ := X3.frames_eq
  have hU : ((((W.pushCell (freshCell P1.m.cls N.kN)).setVm vm').setCell W.heap.size (npeBareV T.toThrowableT N.toNpeT (freshCell P1.m.cls N.kN) W.heap.size u0 sen)).setTop g).pushFrame (.throwing W.heap.size) = (((W.pushCell (freshCell P1.m.cls N.kN)).setVm vm').setCell W.heap.size (npeBareV T.toThrowableT N.toNpeT (freshCell P1.m.cls N.kN) W.heap.size u0 sen)).setFrames (.throwing W.heap.size :: .java g :: below) := by
    rw [State.pushFrame, State.frames_setTop _ hfrM, State.setTop_of_frames _ hfrM, State.setFrames_setFrames]
  refine ⟨_, W.heap.size, _, fun target ht => st.trans (by rw [← hU]; exact ht), X3.forget (fun y hy => ?_), heapAt_setCell_self _ hlt, hfound, rfl⟩
  simp only [List.mem_cons, List.not_mem_nil, or_false] at hy
  have hge : s.heap.size ≤ W.heap.size := X.same.2.1
  rcases hy with rfl | rfl | rfl | rfl | rfl <;> exact hge
/-- the words of a machine's NullPointerException, but the four that speak of the heap -/
def vx_atN (n : Nat) : List Cond := (Bundle.npeArmAtoms n).filter vx_no
/-- the words of a machine's throw with a message, but the four that speak of the heap -/
def vx_atM (X : String) (names : List String) : List Cond := (Bundle.messageArmAtoms X names).filter vx_no
section
variable {p : Program} {l : Launch} {e : Env} {R : Room} {s : State} {m : MethodId} {args : Array Value} {below : List Frame} {meth : Method} {c : Code} {H : Heap} {locs : List Loc} {cells slots : Nat}
/-- a frame seen from a rebased start, seen from the first start again -/
theorem vx_back9 {T S : State} {R' : Room} {k n : Nat} (X : Stand p l e R s m args below meth c T locs cells slots) (Y : Stand p l e R' ((T.setVm s.vm).setFrames (.invoking m args :: below)) m args below meth c T [] 0 0) (Z : Stand p l e R' ((T.setVm s.vm).setFrames (.invoking m args :: below)) m args below meth c S [] k n) :
    Stand p l e R s m args below meth c S locs (cells + k) (slots + n) := by
  have hW0 : s.WarmedH ((T.setVm s.vm).setFrames (.invoking m args :: below)).vm := State.WarmedH.refl s
  refine { admits := X.admits, cas := X.cas, clock := X.clock, frames := X.frames, room := X.room, hears := X.hears, method := X.method, code := X.code, here := Z.here, tail := Z.tail, warmed := State.WarmedH.trans hW0 Z.warmed, limits := Z.limits.trans (Y.limits.symm.trans X.limits), bytes := Z.bytes.trans (Y.bytes.symm.trans X.bytes), same := ?_ }
  obtain ⟨e1, e2⟩ := Z.same
  rw [State.setFrames_setFrames] at e1
  have h2 : (T.setVm s.vm).sameButNew (S.setVm s.vm) [] k n := ⟨e1, e2⟩
  have h3 := X.same.trans h2
  rw [List.append_nil] at h3
  exact h3
/-- from the machine's note that E is thrown here with this text -/
def vx_Note (p : Program) (l : Launch) (e : Env) (R : Room) (s : State) (m : MethodId) (args : Array Value) (below : List Frame) (meth : Method) (c : Code) (H : Heap) (locs : List Loc) (cells slots : Nat) (Q : State → Prop) (g : JFrame) (E text : String) : Prop :=
  ∀ T : State, T.heap = H → Stand p l e R s m args below meth c T locs cells slots → ∃ t, Steps p.tables e below ((T.setTop g).pushFrame (.throwNew E (some text) none)) t ∧ Q t
theorem vx_vm {pc : Nat} {ls : Array Slot} {rest : List Value} {Q : State → Prop} (hexec : p.tables.exec = Jvm.exec) (hl : l.stackTraces = false) {cls text : String} {names : List String} {nb : Nat} {A : Nat → Prop}
    (hcls : Bundle.fit cls = true) (hnames : ∀ n ∈ names, Bundle.fit n = true) (hsoe : (cls == "java/lang/StackOverflowError") = false) (hoom : (cls == "java/lang/OutOfMemoryError") = false)
    (hat : ∀ w ∈ vx_atM cls names, w.before args s = true) (hgood : ∀ w ∈ vx_atM cls names, vx_ot w = true)
    (hU : vx_Zq Bundle.tN "UNASSIGNED_STACK" Bundle.steD A s s.heap) (hN : vx_Zq Bundle.tN "SUPPRESSED_SENTINEL" Bundle.listD A s s.heap) (hS : va_S A s.heap H locs) (hsize : ls.size = c.maxLocals)
    (htext : (text == notModelled) = false) (hnb : (stringBytes (stringToUtf16 text)).size ≤ nb) (hnb1 : nb ≤ 1000)
    (hRframes : names.length + 4 < R.frames) (hRlocals : (rest.map fun v => v.category).sum + 10240 ≤ R.locals) (hshort : 13 * names.length + 55 ≤ 10240) (hRcells : cells + 3 ≤ R.cells) (hRslots : slots + (nb + 10) ≤ R.slots) (hlocks : meth.locks = false)
    (k : ∀ (H1 : Heap) (q9 : Addr) (ce : Cell), H.size ≤ H1.size → (∀ q : Nat, q < H.size → H1[q]? = H[q]?) → va_S A s.heap H1 locs → H1[q9]? = some ce → ce.vm = .none → s.vm.findClass cls = some ce.cls → vx_W p l e R s m args below meth c H1 locs (cells + 3) (slots + (nb + 10)) Q (F0 m pc ls rest) q9) :
    vx_Note p l e R s m args below meth c H locs cells slots Q (F0 m pc ls rest) cls text := by
  intro T hT X
  have htr : e.platform.stackTraces = false := (show e.platform.stackTraces = l.stackTraces by rw [X.admits.platform]).trans hl
  have Y := vx_rebase X (R' := { frames := R.frames, locals := R.locals, cells := 3, slots := nb + 10 }) (Nat.le_refl _) (Nat.le_refl _) hRcells hRslots
  have hhp : ((T.setVm s.vm).setFrames (.invoking m args :: below)).heap = H := hT
  have hW0 : s.WarmedH ((T.setVm s.vm).setFrames (.invoking m args :: below)).vm := State.WarmedH.refl s
  have hat' : ∀ w ∈ vx_atM cls names, w.before args ((T.setVm s.vm).setFrames (.invoking m args :: below)) = true := fun w hw => vx_ot_at hW0 rfl (hgood w hw) (hat w hw)
  have hU' : vx_Zq Bundle.tN "UNASSIGNED_STACK" Bundle.steD A ((T.setVm s.vm).setFrames (.invoking m args :: below)) ((T.setVm s.vm).setFrames (.invoking m args :: below)).heap := by rw [hhp]; exact vx_Zq.moved hW0.alike (hU.kept hS.2.1)
  have hN' : vx_Zq Bundle.tN "SUPPRESSED_SENTINEL" Bundle.listD A ((T.setVm s.vm).setFrames (.invoking m args :: below)) ((T.setVm s.vm).setFrames (.invoking m args :: below)).heap := by rw [hhp]; exact vx_Zq.moved hW0.alike (hN.kept hS.2.1)
  obtain ⟨S, q, ce, st, Z, hce, hcl', hv⟩ := vx_vmAt Y hexec htr (cls := cls) (names := names) (text := text) hcls hnames hsoe hoom (vx_own hat' (vx_isRefq hU'.1) (vx_isRefq hN'.1) hU'.2.word hN'.2.word) (fun x hx => nomatch hx) htext
    (by rw [Launch.admits_arrayLengthLimit X.admits]; omega) (by rw [Launch.admits_maxHeapBytes X.admits]; simp only [componentBytes]; omega)
    (g := F0 m pc ls rest) rfl hsize hRframes (by show 2 * 0 + (rest.map fun v => v.category).sum + 10240 ≤ R.locals; omega) hshort (by show 0 + 3 ≤ 3; omega) (by show 0 + (_ + 4 + 6) ≤ nb + 10; omega) hlocks
  obtain ⟨f1, f2⟩ := vx_frame Z.same
  have f1' : H.size ≤ S.heap.size := by rw [← hT]; exact f1
  have f2' : ∀ q : Nat, q < H.size → S.heap[q]? = H[q]? := fun q hq => by
    rw [← hT]
    exact f2 q (by rw [← hT] at hq; exact hq) (fun z hz => nomatch hz)
  have X5 := vx_back9 X Y Z
  have X6 : Stand p l e R s m args below meth c S locs (cells + 3) (slots + (nb + 10)) := { X5 with same := X5.same.mono (by omega) (by omega) }
  obtain ⟨t, a1, b1⟩ := k S.heap q ce f1' f2' ⟨Nat.le_trans hS.1 f1', fun q h1 h2 => (f2' q (Nat.lt_of_lt_of_le h1 hS.1)).trans (hS.2.1 q h1 h2), hS.2.2⟩ hce hv hcl' S rfl X6
  exact ⟨t, st t a1, b1⟩
/-- from the machine's note that NullPointerException is thrown here -/
def vx_NoteN (p : Program) (l : Launch) (e : Env) (R : Room) (s : State) (m : MethodId) (args : Array Value) (below : List Frame) (meth : Method) (c : Code) (H : Heap) (locs : List Loc) (cells slots : Nat) (Q : State → Prop) (g : JFrame) : Prop :=
  ∀ T : State, T.heap = H → Stand p l e R s m args below meth c T locs cells slots → ∃ t, Steps p.tables e below ((T.setTop g).pushFrame (.throwNew "java/lang/NullPointerException" none none)) t ∧ Q t
theorem vx_npe {pc : Nat} {ls : Array Slot} {rest : List Value} {Q : State → Prop} (hexec : p.tables.exec = Jvm.exec) (hl : l.stackTraces = false) {nb : Nat} {A : Nat → Prop}
    (hat : ∀ w ∈ vx_atN nb, w.before args s = true) (hgood : ∀ w ∈ vx_atN nb, vx_ot w = true)
    (hU : vx_Zq Bundle.tN "UNASSIGNED_STACK" Bundle.steD A s s.heap) (hN : vx_Zq Bundle.tN "SUPPRESSED_SENTINEL" Bundle.listD A s s.heap) (hS : va_S A s.heap H locs) (hsize : ls.size = c.maxLocals)
    (hRframes : 7 < R.frames) (hRlocals : (rest.map fun v => v.category).sum + 10240 ≤ R.locals) (hRcells : cells + 1 ≤ R.cells) (hRslots : slots + nb ≤ R.slots) (hlocks : meth.locks = false)
    (k : ∀ (H1 : Heap) (q9 : Addr) (ce : Cell), H.size ≤ H1.size → (∀ q : Nat, q < H.size → H1[q]? = H[q]?) → va_S A s.heap H1 locs → H1[q9]? = some ce → ce.vm = .none → s.vm.findClass "java/lang/NullPointerException" = some ce.cls → vx_W p l e R s m args below meth c H1 locs (cells + 1) (slots + nb) Q (F0 m pc ls rest) q9) :
    vx_NoteN p l e R s m args below meth c H locs cells slots Q (F0 m pc ls rest) := by
  intro T hT X
  have htr : e.platform.stackTraces = false := (show e.platform.stackTraces = l.stackTraces by rw [X.admits.platform]).trans hl
  have Y := vx_rebase X (R' := { frames := R.frames, locals := R.locals, cells := 1, slots := nb }) (Nat.le_refl _) (Nat.le_refl _) hRcells hRslots
  have hhp : ((T.setVm s.vm).setFrames (.invoking m args :: below)).heap = H := hT
  have hW0 : s.WarmedH ((T.setVm s.vm).setFrames (.invoking m args :: below)).vm := State.WarmedH.refl s
  have hat' : ∀ w ∈ vx_atN nb, w.before args ((T.setVm s.vm).setFrames (.invoking m args :: below)) = true := fun w hw => vx_ot_at hW0 rfl (hgood w hw) (hat w hw)
  have hU' : vx_Zq Bundle.tN "UNASSIGNED_STACK" Bundle.steD A ((T.setVm s.vm).setFrames (.invoking m args :: below)) ((T.setVm s.vm).setFrames (.invoking m args :: below)).heap := by rw [hhp]; exact vx_Zq.moved hW0.alike (hU.kept hS.2.1)
  have hN' : vx_Zq Bundle.tN "SUPPRESSED_SENTINEL" Bundle.listD A ((T.setVm s.vm).setFrames (.invoking m args :: below)) ((T.setVm s.vm).setFrames (.invoking m args :: below)).heap := by rw [hhp]; exact vx_Zq.moved hW0.alike (hN.kept hS.2.1)
  obtain ⟨S, q, ce, st, Z, hce, hcl', hv⟩ := vx_npeAt Y hexec htr (n := nb) (vx_own hat' (vx_isRefq hU'.1) (vx_isRefq hN'.1) hU'.2.word hN'.2.word) (fun x hx => nomatch hx)
    (g := F0 m pc ls rest) rfl hsize hRframes (by show 2 * 0 + (rest.map fun v => v.category).sum + 10240 ≤ R.locals; omega) (by show 0 + 1 ≤ 1; omega) (by show 0 + nb ≤ nb; omega) hlocks
  obtain ⟨f1, f2⟩ := vx_frame Z.same
  have f1' : H.size ≤ S.heap.size := by rw [← hT]; exact f1
  have f2' : ∀ q : Nat, q < H.size → S.heap[q]? = H[q]? := fun q hq => by
    rw [← hT]
    exact f2 q (by rw [← hT] at hq; exact hq) (fun z hz => nomatch hz)
  have X5 := vx_back9 X Y Z
  have X6 : Stand p l e R s m args below meth c S locs (cells + 1) (slots + nb) := { X5 with same := X5.same.mono (by omega) (by omega) }
  obtain ⟨t, a1, b1⟩ := k S.heap q ce f1' f2' ⟨Nat.le_trans hS.1 f1', fun q h1 h2 => (f2' q (Nat.lt_of_lt_of_le h1 hS.1)).trans (hS.2.1 q h1 h2), hS.2.2⟩ hce hv hcl' S rfl X6
  exact ⟨t, st t a1, b1⟩
variable {Q : State → Prop} {cc : ByteArray} {pc : Nat} {ls : Array Slot} {rest : List Value}
theorem vx_idivZ (hexec : p.tables.exec = Jvm.exec) (hb : c.code = cc) {a b : Int32} (h0 : b = 0) (d : decode cc pc = .ok (.idiv, 1)) (k : vx_Note p l e R s m args below meth c H locs cells slots Q (F0 m pc ls rest) "java/lang/ArithmeticException" "/ by zero") :
    W p l e R s m args below meth c H locs cells slots Q (F0 m pc ls (.int b :: .int a :: rest)) := by
  intro T hT X
  obtain ⟨t, st, q⟩ := k T hT X
  exact ⟨t, X.idivZero hexec (g := F0 m pc ls (.int b :: .int a :: rest)) rfl (a := a) (rest := rest) (by rw [h0]) (by rw [hb]; exact d) t st, q⟩
theorem vx_iremZ (hexec : p.tables.exec = Jvm.exec) (hb : c.code = cc) {a b : Int32} (h0 : b = 0) (d : decode cc pc = .ok (.irem, 1)) (k : vx_Note p l e R s m args below meth c H locs cells slots Q (F0 m pc ls rest) "java/lang/ArithmeticException" "/ by zero") :
    W p l e R s m args below meth c H locs cells slots Q (F0 m pc ls (.int b :: .int a :: rest)) := by
  intro T hT X
  obtain ⟨t, st, q⟩ := k T hT X
  exact ⟨t, X.iremZero hexec (g := F0 m pc ls (.int b :: .int a :: rest)) rfl (a := a) (rest := rest) (by rw [h0]) (by rw [hb]; exact d) t st, q⟩
theorem vx_ldivZ (hexec : p.tables.exec = Jvm.exec) (hb : c.code = cc) {a b : Int64} (h0 : b = 0) (d : decode cc pc = .ok (.ldiv, 1)) (k : vx_Note p l e R s m args below meth c H locs cells slots Q (F0 m pc ls rest) "java/lang/ArithmeticException" "/ by zero") :
    W p l e R s m args below meth c H locs cells slots Q (F0 m pc ls (.long b :: .long a :: rest)) := by
  intro T hT X
  obtain ⟨t, st, q⟩ := k T hT X
  exact ⟨t, X.ldivZero hexec (g := F0 m pc ls (.long b :: .long a :: rest)) rfl (a := a) (rest := rest) (by rw [h0]) (by rw [hb]; exact d) t st, q⟩
theorem vx_lremZ (hexec : p.tables.exec = Jvm.exec) (hb : c.code = cc) {a b : Int64} (h0 : b = 0) (d : decode cc pc = .ok (.lrem, 1)) (k : vx_Note p l e R s m args below meth c H locs cells slots Q (F0 m pc ls rest) "java/lang/ArithmeticException" "/ by zero") :
    W p l e R s m args below meth c H locs cells slots Q (F0 m pc ls (.long b :: .long a :: rest)) := by
  intro T hT X
  obtain ⟨t, st, q⟩ := k T hT X
  exact ⟨t, X.lremZero hexec (g := F0 m pc ls (.long b :: .long a :: rest)) rfl (a := a) (rest := rest) (by rw [h0]) (by rw [hb]; exact d) t st, q⟩
theorem vx_ialdZ {D : va_G} {cl : List vw_C} {ws : va_W} {tys : List (ClassId × FieldType)} {a : Nat} (hexec : p.tables.exec = Jvm.exec) (hb : c.code = cc) (hK : va_K D cl tys s) (hP : va_P D cl ws H) (q0 t0 : Nat) {cA : ClassId} {n : Nat} {f : Nat → Int32} (ha : ws[q0]? = some (a, .inl (cA, n, .inl f))) (ht : tys[t0]? = some (cA, .int)) {i : Int32} (hout : ¬ vp_in i n) (hdg : decode cc pc = .ok (.iaload, 1))
    (k : ∀ tx : String, tx = (toString "Index " ++ toString i ++ toString " out of bounds for length " ++ toString n : String) → vx_Note p l e R s m args below meth c H locs cells slots Q (F0 m pc ls rest) "java/lang/ArrayIndexOutOfBoundsException" tx) : W p l e R s m args below meth c H locs cells slots Q (F0 m pc ls (.int i :: .ref a :: rest)) := by
  intro T hT X
  obtain ⟨t, st, q⟩ := k _ rfl T hT X
  refine ⟨t, ?_, q⟩
  have h1 := X.ialoadOut hexec (by rw [hT]; exact hP q0 _ ha) ((hK.2 t0 _ ht).1 n (fun j => .int (f j))) (j := i) (by show (i < 0 ∨ (arrV _ _ _).slots.size ≤ _); rw [arrV_size]; exact Classical.byContradiction hout) (g := F0 m pc ls (.int i :: .ref a :: rest)) rfl (rest := rest) rfl (by rw [hb]; exact hdg) t
  simp only [arrV_size] at h1
  exact h1 st
theorem vx_iastZ {D : va_G} {cl : List vw_C} {ws : va_W} {tys : List (ClassId × FieldType)} {a : Nat} (hexec : p.tables.exec = Jvm.exec) (hb : c.code = cc) (hK : va_K D cl tys s) (hP : va_P D cl ws H) (q0 t0 : Nat) {cA : ClassId} {n : Nat} {f : Nat → Int32} (ha : ws[q0]? = some (a, .inl (cA, n, .inl f))) (ht : tys[t0]? = some (cA, .int)) {i : Int32} {x : Int32} (hout : ¬ vp_in i n) (hdg : decode cc pc = .ok (.iastore, 1))
    (k : ∀ tx : String, tx = (toString "Index " ++ toString i ++ toString " out of bounds for length " ++ toString n : String) → vx_Note p l e R s m args below meth c H locs cells slots Q (F0 m pc ls rest) "java/lang/ArrayIndexOutOfBoundsException" tx) : W p l e R s m args below meth c H locs cells slots Q (F0 m pc ls (.int x :: .int i :: .ref a :: rest)) := by
  intro T hT X
  obtain ⟨t, st, q⟩ := k _ rfl T hT X
  refine ⟨t, ?_, q⟩
  have h1 := X.iastoreOut hexec (by rw [hT]; exact hP q0 _ ha) ((hK.2 t0 _ ht).1 n (fun j => .int (f j))) (j := i) (by show (i < 0 ∨ (arrV _ _ _).slots.size ≤ _); rw [arrV_size]; exact Classical.byContradiction hout) (g := F0 m pc ls (.int x :: .int i :: .ref a :: rest)) rfl (rest := rest) rfl (by rw [hb]; exact hdg) t
  simp only [arrV_size] at h1
  exact h1 st
theorem vx_baldZ {D : va_G} {cl : List vw_C} {ws : va_W} {tys : List (ClassId × FieldType)} {a : Nat} (hexec : p.tables.exec = Jvm.exec) (hb : c.code = cc) (hK : va_K D cl tys s) (hP : va_P D cl ws H) (q0 t0 : Nat) {cA : ClassId} {n : Nat} {f : Nat → Int32} (ha : ws[q0]? = some (a, .inl (cA, n, .inl f))) (ht : tys[t0]? = some (cA, .byte)) {i : Int32} (hout : ¬ vp_in i n) (hdg : decode cc pc = .ok (.baload, 1))
    (k : ∀ tx : String, tx = (toString "Index " ++ toString i ++ toString " out of bounds for length " ++ toString n : String) → vx_Note p l e R s m args below meth c H locs cells slots Q (F0 m pc ls rest) "java/lang/ArrayIndexOutOfBoundsException" tx) : W p l e R s m args below meth c H locs cells slots Q (F0 m pc ls (.int i :: .ref a :: rest)) := by
  intro T hT X
  obtain ⟨t, st, q⟩ := k _ rfl T hT X
  refine ⟨t, ?_, q⟩
  have h1 := X.baloadOut hexec (by rw [hT]; exact hP q0 _ ha) ((hK.2 t0 _ ht).1 n (fun j => .int (f j))) (j := i) (by show (i < 0 ∨ (arrV _ _ _).slots.size ≤ _); rw [arrV_size]; exact Classical.byContradiction hout) (g := F0 m pc ls (.int i :: .ref a :: rest)) rfl (rest := rest) rfl (by rw [hb]; exact hdg) t
  simp only [arrV_size] at h1
  exact h1 st
theorem vx_bastZ {D : va_G} {cl : List vw_C} {ws : va_W} {tys : List (ClassId × FieldType)} {a : Nat} (hexec : p.tables.exec = Jvm.exec) (hb : c.code = cc) (hK : va_K D cl tys s) (hP : va_P D cl ws H) (q0 t0 : Nat) {cA : ClassId} {n : Nat} {f : Nat → Int32} (ha : ws[q0]? = some (a, .inl (cA, n, .inl f))) (ht : tys[t0]? = some (cA, .byte)) {i : Int32} {x : Int32} (hout : ¬ vp_in i n) (hdg : decode cc pc = .ok (.bastore, 1))
    (k : ∀ tx : String, tx = (toString "Index " ++ toString i ++ toString " out of bounds for length " ++ toString n : String) → vx_Note p l e R s m args below meth c H locs cells slots Q (F0 m pc ls rest) "java/lang/ArrayIndexOutOfBoundsException" tx) : W p l e R s m args below meth c H locs cells slots Q (F0 m pc ls (.int x :: .int i :: .ref a :: rest)) := by
  intro T hT X
  obtain ⟨t, st, q⟩ := k _ rfl T hT X
  refine ⟨t, ?_, q⟩
  have h1 := X.bastoreOut hexec (by rw [hT]; exact hP q0 _ ha) ((hK.2 t0 _ ht).1 n (fun j => .int (f j))) (j := i) (by show (i < 0 ∨ (arrV _ _ _).slots.size ≤ _); rw [arrV_size]; exact Classical.byContradiction hout) (g := F0 m pc ls (.int x :: .int i :: .ref a :: rest)) rfl (rest := rest) rfl (by rw [hb]; exact hdg) t
  simp only [arrV_size] at h1
  exact h1 st
theorem vx_zaldZ {D : va_G} {cl : List vw_C} {ws : va_W} {tys : List (ClassId × FieldType)} {a : Nat} (hexec : p.tables.exec = Jvm.exec) (hb : c.code = cc) (hK : va_K D cl tys s) (hP : va_P D cl ws H) (q0 t0 : Nat) {cA : ClassId} {n : Nat} {f : Nat → Int32} (ha : ws[q0]? = some (a, .inl (cA, n, .inl f))) (ht : tys[t0]? = some (cA, .boolean)) {i : Int32} (hout : ¬ vp_in i n) (hdg : decode cc pc = .ok (.baload, 1))
    (k : ∀ tx : String, tx = (toString "Index " ++ toString i ++ toString " out of bounds for length " ++ toString n : String) → vx_Note p l e R s m args below meth c H locs cells slots Q (F0 m pc ls rest) "java/lang/ArrayIndexOutOfBoundsException" tx) : W p l e R s m args below meth c H locs cells slots Q (F0 m pc ls (.int i :: .ref a :: rest)) := by
  intro T hT X
  obtain ⟨t, st, q⟩ := k _ rfl T hT X
  refine ⟨t, ?_, q⟩
  have h1 := X.baloadOut hexec (by rw [hT]; exact hP q0 _ ha) ((hK.2 t0 _ ht).1 n (fun j => .int (f j))) (j := i) (by show (i < 0 ∨ (arrV _ _ _).slots.size ≤ _); rw [arrV_size]; exact Classical.byContradiction hout) (g := F0 m pc ls (.int i :: .ref a :: rest)) rfl (rest := rest) rfl (by rw [hb]; exact hdg) t
  simp only [arrV_size] at h1
  exact h1 st
theorem vx_zastZ {D : va_G} {cl : List vw_C} {ws : va_W} {tys : List (ClassId × FieldType)} {a : Nat} (hexec : p.tables.exec = Jvm.exec) (hb : c.code = cc) (hK : va_K D cl tys s) (hP : va_P D cl ws H) (q0 t0 : Nat) {cA : ClassId} {n : Nat} {f : Nat → Int32} (ha : ws[q0]? = some (a, .inl (cA, n, .inl f))) (ht : tys[t0]? = some (cA, .boolean)) {i : Int32} {x : Int32} (hout : ¬ vp_in i n) (hdg : decode cc pc = .ok (.bastore, 1))
    (k : ∀ tx : String, tx = (toString "Index " ++ toString i ++ toString " out of bounds for length " ++ toString n : String) → vx_Note p l e R s m args below meth c H locs cells slots Q (F0 m pc ls rest) "java/lang/ArrayIndexOutOfBoundsException" tx) : W p l e R s m args below meth c H locs cells slots Q (F0 m pc ls (.int x :: .int i :: .ref a :: rest)) := by
  intro T hT X
  obtain ⟨t, st, q⟩ := k _ rfl T hT X
  refine ⟨t, ?_, q⟩
  have h1 := X.bastoreOut hexec (by rw [hT]; exact hP q0 _ ha) ((hK.2 t0 _ ht).1 n (fun j => .int (f j))) (j := i) (by show (i < 0 ∨ (arrV _ _ _).slots.size ≤ _); rw [arrV_size]; exact Classical.byContradiction hout) (g := F0 m pc ls (.int x :: .int i :: .ref a :: rest)) rfl (rest := rest) rfl (by rw [hb]; exact hdg) t
  simp only [arrV_size] at h1
  exact h1 st
theorem vx_caldZ {D : va_G} {cl : List vw_C} {ws : va_W} {tys : List (ClassId × FieldType)} {a : Nat} (hexec : p.tables.exec = Jvm.exec) (hb : c.code = cc) (hK : va_K D cl tys s) (hP : va_P D cl ws H) (q0 t0 : Nat) {cA : ClassId} {n : Nat} {f : Nat → Int32} (ha : ws[q0]? = some (a, .inl (cA, n, .inl f))) (ht : tys[t0]? = some (cA, .char)) {i : Int32} (hout : ¬ vp_in i n) (hdg : decode cc pc = .ok (.caload, 1))
    (k : ∀ tx : String, tx = (toString "Index " ++ toString i ++ toString " out of bounds for length " ++ toString n : String) → vx_Note p l e R s m args below meth c H locs cells slots Q (F0 m pc ls rest) "java/lang/ArrayIndexOutOfBoundsException" tx) : W p l e R s m args below meth c H locs cells slots Q (F0 m pc ls (.int i :: .ref a :: rest)) := by
  intro T hT X
  obtain ⟨t, st, q⟩ := k _ rfl T hT X
  refine ⟨t, ?_, q⟩
  have h1 := X.caloadOut hexec (by rw [hT]; exact hP q0 _ ha) ((hK.2 t0 _ ht).1 n (fun j => .int (f j))) (j := i) (by show (i < 0 ∨ (arrV _ _ _).slots.size ≤ _); rw [arrV_size]; exact Classical.byContradiction hout) (g := F0 m pc ls (.int i :: .ref a :: rest)) rfl (rest := rest) rfl (by rw [hb]; exact hdg) t
  simp only [arrV_size] at h1
  exact h1 st
theorem vx_castZ {D : va_G} {cl : List vw_C} {ws : va_W} {tys : List (ClassId × FieldType)} {a : Nat} (hexec : p.tables.exec = Jvm.exec) (hb : c.code = cc) (hK : va_K D cl tys s) (hP : va_P D cl ws H) (q0 t0 : Nat) {cA : ClassId} {n : Nat} {f : Nat → Int32} (ha : ws[q0]? = some (a, .inl (cA, n, .inl f))) (ht : tys[t0]? = some (cA, .char)) {i : Int32} {x : Int32} (hout : ¬ vp_in i n) (hdg : decode cc pc = .ok (.castore, 1))
    (k : ∀ tx : String, tx = (toString "Index " ++ toString i ++ toString " out of bounds for length " ++ toString n : String) → vx_Note p l e R s m args below meth c H locs cells slots Q (F0 m pc ls rest) "java/lang/ArrayIndexOutOfBoundsException" tx) : W p l e R s m args below meth c H locs cells slots Q (F0 m pc ls (.int x :: .int i :: .ref a :: rest)) := by
  intro T hT X
  obtain ⟨t, st, q⟩ := k _ rfl T hT X
  refine ⟨t, ?_, q⟩
  have h1 := X.castoreOut hexec (by rw [hT]; exact hP q0 _ ha) ((hK.2 t0 _ ht).1 n (fun j => .int (f j))) (j := i) (by show (i < 0 ∨ (arrV _ _ _).slots.size ≤ _); rw [arrV_size]; exact Classical.byContradiction hout) (g := F0 m pc ls (.int x :: .int i :: .ref a :: rest)) rfl (rest := rest) rfl (by rw [hb]; exact hdg) t
  simp only [arrV_size] at h1
  exact h1 st
theorem vx_saldZ {D : va_G} {cl : List vw_C} {ws : va_W} {tys : List (ClassId × FieldType)} {a : Nat} (hexec : p.tables.exec = Jvm.exec) (hb : c.code = cc) (hK : va_K D cl tys s) (hP : va_P D cl ws H) (q0 t0 : Nat) {cA : ClassId} {n : Nat} {f : Nat → Int32} (ha : ws[q0]? = some (a, .inl (cA, n, .inl f))) (ht : tys[t0]? = some (cA, .short)) {i : Int32} (hout : ¬ vp_in i n) (hdg : decode cc pc = .ok (.saload, 1))
    (k : ∀ tx : String, tx = (toString "Index " ++ toString i ++ toString " out of bounds for length " ++ toString n : String) → vx_Note p l e R s m args below meth c H locs cells slots Q (F0 m pc ls rest) "java/lang/ArrayIndexOutOfBoundsException" tx) : W p l e R s m args below meth c H locs cells slots Q (F0 m pc ls (.int i :: .ref a :: rest)) := by
  intro T hT X
  obtain ⟨t, st, q⟩ := k _ rfl T hT X
  refine ⟨t, ?_, q⟩
  have h1 := X.saloadOut hexec (by rw [hT]; exact hP q0 _ ha) ((hK.2 t0 _ ht).1 n (fun j => .int (f j))) (j := i) (by show (i < 0 ∨ (arrV _ _ _).slots.size ≤ _); rw [arrV_size]; exact Classical.byContradiction hout) (g := F0 m pc ls (.int i :: .ref a :: rest)) rfl (rest := rest) rfl (by rw [hb]; exact hdg) t
  simp only [arrV_size] at h1
  exact h1 st
theorem vx_sastZ {D : va_G} {cl : List vw_C} {ws : va_W} {tys : List (ClassId × FieldType)} {a : Nat} (hexec : p.tables.exec = Jvm.exec) (hb : c.code = cc) (hK : va_K D cl tys s) (hP : va_P D cl ws H) (q0 t0 : Nat) {cA : ClassId} {n : Nat} {f : Nat → Int32} (ha : ws[q0]? = some (a, .inl (cA, n, .inl f))) (ht : tys[t0]? = some (cA, .short)) {i : Int32} {x : Int32} (hout : ¬ vp_in i n) (hdg : decode cc pc = .ok (.sastore, 1))
    (k : ∀ tx : String, tx = (toString "Index " ++ toString i ++ toString " out of bounds for length " ++ toString n : String) → vx_Note p l e R s m args below meth c H locs cells slots Q (F0 m pc ls rest) "java/lang/ArrayIndexOutOfBoundsException" tx) : W p l e R s m args below meth c H locs cells slots Q (F0 m pc ls (.int x :: .int i :: .ref a :: rest)) := by
  intro T hT X
  obtain ⟨t, st, q⟩ := k _ rfl T hT X
  refine ⟨t, ?_, q⟩
  have h1 := X.sastoreOut hexec (by rw [hT]; exact hP q0 _ ha) ((hK.2 t0 _ ht).1 n (fun j => .int (f j))) (j := i) (by show (i < 0 ∨ (arrV _ _ _).slots.size ≤ _); rw [arrV_size]; exact Classical.byContradiction hout) (g := F0 m pc ls (.int x :: .int i :: .ref a :: rest)) rfl (rest := rest) rfl (by rw [hb]; exact hdg) t
  simp only [arrV_size] at h1
  exact h1 st
theorem vx_laldZ {D : va_G} {cl : List vw_C} {ws : va_W} {tys : List (ClassId × FieldType)} {a : Nat} (hexec : p.tables.exec = Jvm.exec) (hb : c.code = cc) (hK : va_K D cl tys s) (hP : va_P D cl ws H) (q0 t0 : Nat) {cA : ClassId} {n : Nat} {f : Nat → Int64} (ha : ws[q0]? = some (a, .inl (cA, n, .inr (.inl f)))) (ht : tys[t0]? = some (cA, .long)) {i : Int32} (hout : ¬ vp_in i n) (hdg : decode cc pc = .ok (.laload, 1))
    (k : ∀ tx : String, tx = (toString "Index " ++ toString i ++ toString " out of bounds for length " ++ toString n : String) → vx_Note p l e R s m args below meth c H locs cells slots Q (F0 m pc ls rest) "java/lang/ArrayIndexOutOfBoundsException" tx) : W p l e R s m args below meth c H locs cells slots Q (F0 m pc ls (.int i :: .ref a :: rest)) := by
  intro T hT X
  obtain ⟨t, st, q⟩ := k _ rfl T hT X
  refine ⟨t, ?_, q⟩
  have h1 := X.laloadOut hexec (by rw [hT]; exact hP q0 _ ha) ((hK.2 t0 _ ht).1 n (fun j => .long (f j))) (j := i) (by show (i < 0 ∨ (arrV _ _ _).slots.size ≤ _); rw [arrV_size]; exact Classical.byContradiction hout) (g := F0 m pc ls (.int i :: .ref a :: rest)) rfl (rest := rest) rfl (by rw [hb]; exact hdg) t
  simp only [arrV_size] at h1
  exact h1 st
theorem vx_lastZ {D : va_G} {cl : List vw_C} {ws : va_W} {tys : List (ClassId × FieldType)} {a : Nat} (hexec : p.tables.exec = Jvm.exec) (hb : c.code = cc) (hK : va_K D cl tys s) (hP : va_P D cl ws H) (q0 t0 : Nat) {cA : ClassId} {n : Nat} {f : Nat → Int64} (ha : ws[q0]? = some (a, .inl (cA, n, .inr (.inl f)))) (ht : tys[t0]? = some (cA, .long)) {i : Int32} {x : Int64} (hout : ¬ vp_in i n) (hdg : decode cc pc = .ok (.lastore, 1))
    (k : ∀ tx : String, tx = (toString "Index " ++ toString i ++ toString " out of bounds for length " ++ toString n : String) → vx_Note p l e R s m args below meth c H locs cells slots Q (F0 m pc ls rest) "java/lang/ArrayIndexOutOfBoundsException" tx) : W p l e R s m args below meth c H locs cells slots Q (F0 m pc ls (.long x :: .int i :: .ref a :: rest)) := by
  intro T hT X
  obtain ⟨t, st, q⟩ := k _ rfl T hT X
  refine ⟨t, ?_, q⟩
  have h1 := X.lastoreOut hexec (by rw [hT]; exact hP q0 _ ha) ((hK.2 t0 _ ht).1 n (fun j => .long (f j))) (j := i) (by show (i < 0 ∨ (arrV _ _ _).slots.size ≤ _); rw [arrV_size]; exact Classical.byContradiction hout) (g := F0 m pc ls (.long x :: .int i :: .ref a :: rest)) rfl (rest := rest) rfl (by rw [hb]; exact hdg) t
  simp only [arrV_size] at h1
  exact h1 st
theorem vx_faldZ {D : va_G} {cl : List vw_C} {ws : va_W} {tys : List (ClassId × FieldType)} {a : Nat} (hexec : p.tables.exec = Jvm.exec) (hb : c.code = cc) (hK : va_K D cl tys s) (hP : va_P D cl ws H) (q0 t0 : Nat) {cA : ClassId} {n : Nat} {f : Nat → UInt32} (ha : ws[q0]? = some (a, .inl (cA, n, .inr (.inr (.inl f))))) (ht : tys[t0]? = some (cA, .float)) {i : Int32} (hout : ¬ vp_in i n) (hdg : decode cc pc = .ok (.faload, 1))
    (k : ∀ tx : String, tx = (toString "Index " ++ toString i ++ toString " out of bounds for length " ++ toString n : String) → vx_Note p l e R s m args below meth c H locs cells slots Q (F0 m pc ls rest) "java/lang/ArrayIndexOutOfBoundsException" tx) : W p l e R s m args below meth c H locs cells slots Q (F0 m pc ls (.int i :: .ref a :: rest)) := by
  intro T hT X
  obtain ⟨t, st, q⟩ := k _ rfl T hT X
  refine ⟨t, ?_, q⟩
  have h1 := X.faloadOut hexec (by rw [hT]; exact hP q0 _ ha) ((hK.2 t0 _ ht).1 n (fun j => .float (f j))) (j := i) (by show (i < 0 ∨ (arrV _ _ _).slots.size ≤ _); rw [arrV_size]; exact Classical.byContradiction hout) (g := F0 m pc ls (.int i :: .ref a :: rest)) rfl (rest := rest) rfl (by rw [hb]; exact hdg) t
  simp only [arrV_size] at h1
  exact h1 st
theorem vx_fastZ {D : va_G} {cl : List vw_C} {ws : va_W} {tys : List (ClassId × FieldType)} {a : Nat} (hexec : p.tables.exec = Jvm.exec) (hb : c.code = cc) (hK : va_K D cl tys s) (hP : va_P D cl ws H) (q0 t0 : Nat) {cA : ClassId} {n : Nat} {f : Nat → UInt32} (ha : ws[q0]? = some (a, .inl (cA, n, .inr (.inr (.inl f))))) (ht : tys[t0]? = some (cA, .float)) {i : Int32} {x : UInt32} (hout : ¬ vp_in i n) (hdg : decode cc pc = .ok (.fastore, 1))
    (k : ∀ tx : String, tx = (toString "Index " ++ toString i ++ toString " out of bounds for length " ++ toString n : String) → vx_Note p l e R s m args below meth c H locs cells slots Q (F0 m pc ls rest) "java/lang/ArrayIndexOutOfBoundsException" tx) : W p l e R s m args below meth c H locs cells slots Q (F0 m pc ls (.float x :: .int i :: .ref a :: rest)) := by
  intro T hT X
  obtain ⟨t, st, q⟩ := k _ rfl T hT X
  refine ⟨t, ?_, q⟩
  have h1 := X.fastoreOut hexec (by rw [hT]; exact hP q0 _ ha) ((hK.2 t0 _ ht).1 n (fun j => .float (f j))) (j := i) (by show (i < 0 ∨ (arrV _ _ _).slots.size ≤ _); rw [arrV_size]; exact Classical.byContradiction hout) (g := F0 m pc ls (.float x :: .int i :: .ref a :: rest)) rfl (rest := rest) rfl (by rw [hb]; exact hdg) t
  simp only [arrV_size] at h1
  exact h1 st
theorem vx_daldZ {D : va_G} {cl : List vw_C} {ws : va_W} {tys : List (ClassId × FieldType)} {a : Nat} (hexec : p.tables.exec = Jvm.exec) (hb : c.code = cc) (hK : va_K D cl tys s) (hP : va_P D cl ws H) (q0 t0 : Nat) {cA : ClassId} {n : Nat} {f : Nat → UInt64} (ha : ws[q0]? = some (a, .inl (cA, n, .inr (.inr (.inr (.inl f)))))) (ht : tys[t0]? = some (cA, .double)) {i : Int32} (hout : ¬ vp_in i n) (hdg : decode cc pc = .ok (.daload, 1))
    (k : ∀ tx : String, tx = (toString "Index " ++ toString i ++ toString " out of bounds for length " ++ toString n : String) → vx_Note p l e R s m args below meth c H locs cells slots Q (F0 m pc ls rest) "java/lang/ArrayIndexOutOfBoundsException" tx) : W p l e R s m args below meth c H locs cells slots Q (F0 m pc ls (.int i :: .ref a :: rest)) := by
  intro T hT X
  obtain ⟨t, st, q⟩ := k _ rfl T hT X
  refine ⟨t, ?_, q⟩
  have h1 := X.daloadOut hexec (by rw [hT]; exact hP q0 _ ha) ((hK.2 t0 _ ht).1 n (fun j => .double (f j))) (j := i) (by show (i < 0 ∨ (arrV _ _ _).slots.size ≤ _); rw [arrV_size]; exact Classical.byContradiction hout) (g := F0 m pc ls (.int i :: .ref a :: rest)) rfl (rest := rest) rfl (by rw [hb]; exact hdg) t
  simp only [arrV_size] at h1
  exact h1 st
theorem vx_dastZ {D : va_G} {cl : List vw_C} {ws : va_W} {tys : List (ClassId × FieldType)} {a : Nat} (hexec : p.tables.exec = Jvm.exec) (hb : c.code = cc) (hK : va_K D cl tys s) (hP : va_P D cl ws H) (q0 t0 : Nat) {cA : ClassId} {n : Nat} {f : Nat → UInt64} (ha : ws[q0]? = some (a, .inl (cA, n, .inr (.inr (.inr (.inl f)))))) (ht : tys[t0]? = some (cA, .double)) {i : Int32} {x : UInt64} (hout : ¬ vp_in i n) (hdg : decode cc pc = .ok (.dastore, 1))
    (k : ∀ tx : String, tx = (toString "Index " ++ toString i ++ toString " out of bounds for length " ++ toString n : String) → vx_Note p l e R s m args below meth c H locs cells slots Q (F0 m pc ls rest) "java/lang/ArrayIndexOutOfBoundsException" tx) : W p l e R s m args below meth c H locs cells slots Q (F0 m pc ls (.double x :: .int i :: .ref a :: rest)) := by
  intro T hT X
  obtain ⟨t, st, q⟩ := k _ rfl T hT X
  refine ⟨t, ?_, q⟩
  have h1 := X.dastoreOut hexec (by rw [hT]; exact hP q0 _ ha) ((hK.2 t0 _ ht).1 n (fun j => .double (f j))) (j := i) (by show (i < 0 ∨ (arrV _ _ _).slots.size ≤ _); rw [arrV_size]; exact Classical.byContradiction hout) (g := F0 m pc ls (.double x :: .int i :: .ref a :: rest)) rfl (rest := rest) rfl (by rw [hb]; exact hdg) t
  simp only [arrV_size] at h1
  exact h1 st
theorem vx_arraylengthN (hexec : p.tables.exec = Jvm.exec) (hb : c.code = cc) (hdg : decode cc pc = .ok (.arraylength, 1)) (k : vx_NoteN p l e R s m args below meth c H locs cells slots Q (F0 m pc ls rest)) : W p l e R s m args below meth c H locs cells slots Q (F0 m pc ls (.null :: rest)) := by
  intro T hT X
  obtain ⟨t, st, q⟩ := k T hT X
  exact ⟨t, X.arraylengthNull hexec (g := F0 m pc ls (.null :: rest)) rfl (rest := rest) rfl (by rw [hb]; exact hdg) t st, q⟩
theorem vx_ialoadN (hexec : p.tables.exec = Jvm.exec) (hb : c.code = cc) {i : Int32} (hdg : decode cc pc = .ok (.iaload, 1)) (k : vx_NoteN p l e R s m args below meth c H locs cells slots Q (F0 m pc ls rest)) : W p l e R s m args below meth c H locs cells slots Q (F0 m pc ls (.int i :: .null :: rest)) := by
  intro T hT X
  obtain ⟨t, st, q⟩ := k T hT X
  exact ⟨t, X.ialoadNull hexec (g := F0 m pc ls (.int i :: .null :: rest)) rfl (rest := rest) rfl (by rw [hb]; exact hdg) t st, q⟩
theorem vx_laloadN (hexec : p.tables.exec = Jvm.exec) (hb : c.code = cc) {i : Int32} (hdg : decode cc pc = .ok (.laload, 1)) (k : vx_NoteN p l e R s m args below meth c H locs cells slots Q (F0 m pc ls rest)) : W p l e R s m args below meth c H locs cells slots Q (F0 m pc ls (.int i :: .null :: rest)) := by
  intro T hT X
  obtain ⟨t, st, q⟩ := k T hT X
  exact ⟨t, X.laloadNull hexec (g := F0 m pc ls (.int i :: .null :: rest)) rfl (rest := rest) rfl (by rw [hb]; exact hdg) t st, q⟩
theorem vx_faloadN (hexec : p.tables.exec = Jvm.exec) (hb : c.code = cc) {i : Int32} (hdg : decode cc pc = .ok (.faload, 1)) (k : vx_NoteN p l e R s m args below meth c H locs cells slots Q (F0 m pc ls rest)) : W p l e R s m args below meth c H locs cells slots Q (F0 m pc ls (.int i :: .null :: rest)) := by
  intro T hT X
  obtain ⟨t, st, q⟩ := k T hT X
  exact ⟨t, X.faloadNull hexec (g := F0 m pc ls (.int i :: .null :: rest)) rfl (rest := rest) rfl (by rw [hb]; exact hdg) t st, q⟩
theorem vx_daloadN (hexec : p.tables.exec = Jvm.exec) (hb : c.code = cc) {i : Int32} (hdg : decode cc pc = .ok (.daload, 1)) (k : vx_NoteN p l e R s m args below meth c H locs cells slots Q (F0 m pc ls rest)) : W p l e R s m args below meth c H locs cells slots Q (F0 m pc ls (.int i :: .null :: rest)) := by
  intro T hT X
  obtain ⟨t, st, q⟩ := k T hT X
  exact ⟨t, X.daloadNull hexec (g := F0 m pc ls (.int i :: .null :: rest)) rfl (rest := rest) rfl (by rw [hb]; exact hdg) t st, q⟩
theorem vx_aaloadN (hexec : p.tables.exec = Jvm.exec) (hb : c.code = cc) {i : Int32} (hdg : decode cc pc = .ok (.aaload, 1)) (k : vx_NoteN p l e R s m args below meth c H locs cells slots Q (F0 m pc ls rest)) : W p l e R s m args below meth c H locs cells slots Q (F0 m pc ls (.int i :: .null :: rest)) := by
  intro T hT X
  obtain ⟨t, st, q⟩ := k T hT X
  exact ⟨t, X.aaloadNull hexec (g := F0 m pc ls (.int i :: .null :: rest)) rfl (rest := rest) rfl (by rw [hb]; exact hdg) t st, q⟩
theorem vx_baloadN (hexec : p.tables.exec = Jvm.exec) (hb : c.code = cc) {i : Int32} (hdg : decode cc pc = .ok (.baload, 1)) (k : vx_NoteN p l e R s m args below meth c H locs cells slots Q (F0 m pc ls rest)) : W p l e R s m args below meth c H locs cells slots Q (F0 m pc ls (.int i :: .null :: rest)) := by
  intro T hT X
  obtain ⟨t, st, q⟩ := k T hT X
  exact ⟨t, X.baloadNull hexec (g := F0 m pc ls (.int i :: .null :: rest)) rfl (rest := rest) rfl (by rw [hb]; exact hdg) t st, q⟩
theorem vx_caloadN (hexec : p.tables.exec = Jvm.exec) (hb : c.code = cc) {i : Int32} (hdg : decode cc pc = .ok (.caload, 1)) (k : vx_NoteN p l e R s m args below meth c H locs cells slots Q (F0 m pc ls rest)) : W p l e R s m args below meth c H locs cells slots Q (F0 m pc ls (.int i :: .null :: rest)) := by
  intro T hT X
  obtain ⟨t, st, q⟩ := k T hT X
  exact ⟨t, X.caloadNull hexec (g := F0 m pc ls (.int i :: .null :: rest)) rfl (rest := rest) rfl (by rw [hb]; exact hdg) t st, q⟩
theorem vx_saloadN (hexec : p.tables.exec = Jvm.exec) (hb : c.code = cc) {i : Int32} (hdg : decode cc pc = .ok (.saload, 1)) (k : vx_NoteN p l e R s m args below meth c H locs cells slots Q (F0 m pc ls rest)) : W p l e R s m args below meth c H locs cells slots Q (F0 m pc ls (.int i :: .null :: rest)) := by
  intro T hT X
  obtain ⟨t, st, q⟩ := k T hT X
  exact ⟨t, X.saloadNull hexec (g := F0 m pc ls (.int i :: .null :: rest)) rfl (rest := rest) rfl (by rw [hb]; exact hdg) t st, q⟩
theorem vx_iastoreN (hexec : p.tables.exec = Jvm.exec) (hb : c.code = cc) {x : Int32} {i : Int32} (hdg : decode cc pc = .ok (.iastore, 1)) (k : vx_NoteN p l e R s m args below meth c H locs cells slots Q (F0 m pc ls rest)) : W p l e R s m args below meth c H locs cells slots Q (F0 m pc ls (.int x :: .int i :: .null :: rest)) := by
  intro T hT X
  obtain ⟨t, st, q⟩ := k T hT X
  exact ⟨t, X.iastoreNull hexec (g := F0 m pc ls (.int x :: .int i :: .null :: rest)) rfl (rest := rest) rfl (by rw [hb]; exact hdg) t st, q⟩
theorem vx_lastoreN (hexec : p.tables.exec = Jvm.exec) (hb : c.code = cc) {x : Int64} {i : Int32} (hdg : decode cc pc = .ok (.lastore, 1)) (k : vx_NoteN p l e R s m args below meth c H locs cells slots Q (F0 m pc ls rest)) : W p l e R s m args below meth c H locs cells slots Q (F0 m pc ls (.long x :: .int i :: .null :: rest)) := by
  intro T hT X
  obtain ⟨t, st, q⟩ := k T hT X
  exact ⟨t, X.lastoreNull hexec (g := F0 m pc ls (.long x :: .int i :: .null :: rest)) rfl (rest := rest) rfl (by rw [hb]; exact hdg) t st, q⟩
theorem vx_fastoreN (hexec : p.tables.exec = Jvm.exec) (hb : c.code = cc) {x : UInt32} {i : Int32} (hdg : decode cc pc = .ok (.fastore, 1)) (k : vx_NoteN p l e R s m args below meth c H locs cells slots Q (F0 m pc ls rest)) : W p l e R s m args below meth c H locs cells slots Q (F0 m pc ls (.float x :: .int i :: .null :: rest)) := by
  intro T hT X
  obtain ⟨t, st, q⟩ := k T hT X
  exact ⟨t, X.fastoreNull hexec (g := F0 m pc ls (.float x :: .int i :: .null :: rest)) rfl (rest := rest) rfl (by rw [hb]; exact hdg) t st, q⟩
theorem vx_dastoreN (hexec : p.tables.exec = Jvm.exec) (hb : c.code = cc) {x : UInt64} {i : Int32} (hdg : decode cc pc = .ok (.dastore, 1)) (k : vx_NoteN p l e R s m args below meth c H locs cells slots Q (F0 m pc ls rest)) : W p l e R s m args below meth c H locs cells slots Q (F0 m pc ls (.double x :: .int i :: .null :: rest)) := by
  intro T hT X
  obtain ⟨t, st, q⟩ := k T hT X
  exact ⟨t, X.dastoreNull hexec (g := F0 m pc ls (.double x :: .int i :: .null :: rest)) rfl (rest := rest) rfl (by rw [hb]; exact hdg) t st, q⟩
theorem vx_bastoreN (hexec : p.tables.exec = Jvm.exec) (hb : c.code = cc) {x : Int32} {i : Int32} (hdg : decode cc pc = .ok (.bastore, 1)) (k : vx_NoteN p l e R s m args below meth c H locs cells slots Q (F0 m pc ls rest)) : W p l e R s m args below meth c H locs cells slots Q (F0 m pc ls (.int x :: .int i :: .null :: rest)) := by
  intro T hT X
  obtain ⟨t, st, q⟩ := k T hT X
  exact ⟨t, X.bastoreNull hexec (g := F0 m pc ls (.int x :: .int i :: .null :: rest)) rfl (rest := rest) rfl (by rw [hb]; exact hdg) t st, q⟩
theorem vx_castoreN (hexec : p.tables.exec = Jvm.exec) (hb : c.code = cc) {x : Int32} {i : Int32} (hdg : decode cc pc = .ok (.castore, 1)) (k : vx_NoteN p l e R s m args below meth c H locs cells slots Q (F0 m pc ls rest)) : W p l e R s m args below meth c H locs cells slots Q (F0 m pc ls (.int x :: .int i :: .null :: rest)) := by
  intro T hT X
  obtain ⟨t, st, q⟩ := k T hT X
  exact ⟨t, X.castoreNull hexec (g := F0 m pc ls (.int x :: .int i :: .null :: rest)) rfl (rest := rest) rfl (by rw [hb]; exact hdg) t st, q⟩
theorem vx_sastoreN (hexec : p.tables.exec = Jvm.exec) (hb : c.code = cc) {x : Int32} {i : Int32} (hdg : decode cc pc = .ok (.sastore, 1)) (k : vx_NoteN p l e R s m args below meth c H locs cells slots Q (F0 m pc ls rest)) : W p l e R s m args below meth c H locs cells slots Q (F0 m pc ls (.int x :: .int i :: .null :: rest)) := by
  intro T hT X
  obtain ⟨t, st, q⟩ := k T hT X
  exact ⟨t, X.sastoreNull hexec (g := F0 m pc ls (.int x :: .int i :: .null :: rest)) rfl (rest := rest) rfl (by rw [hb]; exact hdg) t st, q⟩
theorem vx_invokeN {own C : String} {index maxL : Nat} {y : MethodName} {bytes : ByteArray} {ret : Option FieldType} (hexec : p.tables.exec = Jvm.exec) (hb : c.code = cc) (hown : s.vm.findClass own = some m.cls) (hlink : (Cond.methodLink own index y).before args s = true) (hinst : (Cond.instanceMethod y).before args s = true) (hcode : (Cond.code y bytes maxL ret).before args s = true) (hsel : (Cond.selects C y y).before args s = true)
    (hx : y.cls ≠ "java/lang/invoke/MethodHandle" ∧ y.cls ≠ "java/lang/invoke/VarHandle") {As : List Value} (hlen : (parseMethodDescriptor y.desc).map (fun d => d.parameters.length) = some As.length) (hdg : decode cc pc = .ok (.invokevirtual index, 3))
    (k : vx_NoteN p l e R s m args below meth c H locs cells slots Q (F0 m pc ls rest)) {st0 : List Value} (hst : st0 = As.reverse ++ .null :: rest) : W p l e R s m args below meth c H locs cells slots Q (F0 m pc ls st0) := by
  intro T hT X
  obtain ⟨r0, r, hn, hrm, hstR, hsigR⟩ := va_Decl.of hinst hcode
  obtain ⟨c2, r2, m2, q1, q2, q3, q4, kP, hkP, hkPi⟩ := Cond.selects_spec hsel
  cases hn.symm.trans q3
  have hl9 : As.length = r.sig.parameters.length := by
    rw [hsigR] at hlen
    exact (Option.some.inj hlen).symm
  obtain ⟨vm', X1, st1⟩ := X.invokevirtualNull hexec hown hlink hn hrm hstR hkP hkPi hx (g := F0 m pc ls st0) rfl (argsL := As) (rest := rest) hl9 hst (by rw [hb]; exact hdg)
  obtain ⟨t, st, q⟩ := k (T.setVm vm') hT X1
  exact ⟨t, st1 t st, q⟩
theorem vx_newarrayZ {atype : ArrayType} (hexec : p.tables.exec = Jvm.exec) (hb : c.code = cc) {n : Int32} (h0 : n < 0) (hdg : decode cc pc = .ok (.newarray atype, 2)) (k : ∀ tx : String, tx = toString n → vx_Note p l e R s m args below meth c H locs cells slots Q (F0 m pc ls rest) "java/lang/NegativeArraySizeException" tx) : W p l e R s m args below meth c H locs cells slots Q (F0 m pc ls (.int n :: rest)) := by
  intro T hT X
  obtain ⟨t, st, q⟩ := k _ rfl T hT X
  exact ⟨t, X.newarrayNegative hexec (g := F0 m pc ls (.int n :: rest)) rfl h0 (rest := rest) rfl (by rw [hb]; exact hdg) t st, q⟩
end
end VXM
/-! ===== END ===== -/
end
section
def RX0 : String := "FaxFilter$BitsIn"
def TX0 : u_T := fun k => match k with
  | 0 => ("FaxFilter$BitsIn", "size", "I", false)
  | 1 => ("FaxFilter$BitsIn", "passed", "I", false)
  | _ => ("FaxFilter$BitsIn", "bytes", "[B", true)
def tyX0 : Nat → FieldType := fun k => match k with
  | 0 => .int
  | 1 => .int
  | _ => .array .byte
abbrev wsX00 : List Cond := u_ws RX0 TX0 3
theorem nmX0 : ∀ a, a < 3 → ∀ b, b < 3 → a ≠ b → (TX0 a).2.1 ≠ (TX0 b).2.1 := by decide +kernel
theorem tyX0_ok : ∀ k, k < 3 → parseFieldDescriptor (TX0 k).2.2.1 = some (tyX0 k) := by decide +kernel
abbrev cX0_init : ByteArray := prog_2_method_1_code
def yX0_init : MethodName := ⟨RX0, "<init>", "()V"⟩
abbrev cX0_empty : ByteArray := prog_2_method_2_code
def yX0_empty : MethodName := ⟨RX0, "empty", "()V"⟩
abbrev cX0_append : ByteArray := prog_2_method_3_code
def yX0_append : MethodName := ⟨RX0, "append", "(I)V"⟩
abbrev cX0_restart : ByteArray := prog_2_method_4_code
def yX0_restart : MethodName := ⟨RX0, "restart", "()V"⟩
abbrev cX0_left : ByteArray := prog_2_method_5_code
def yX0_left : MethodName := ⟨RX0, "left", "()I"⟩
abbrev cX0_pass : ByteArray := prog_2_method_6_code
def yX0_pass : MethodName := ⟨RX0, "pass", "(I)V"⟩
abbrev cX0_passToByte : ByteArray := prog_2_method_7_code
def yX0_passToByte : MethodName := ⟨RX0, "passToByte", "()V"⟩
abbrev cX0_peek : ByteArray := prog_2_method_8_code
def yX0_peek : MethodName := ⟨RX0, "peek", "(I)I"⟩
abbrev cX0_zeros : ByteArray := prog_2_method_9_code
def yX0_zeros : MethodName := ⟨RX0, "zeros", "()I"⟩
abbrev cX0_isMarkNext : ByteArray := prog_2_method_10_code
def yX0_isMarkNext : MethodName := ⟨RX0, "isMarkNext", "()Z"⟩
abbrev cX0_passMark : ByteArray := prog_2_method_11_code
def yX0_passMark : MethodName := ⟨RX0, "passMark", "()Z"⟩
abbrev cX0_bitAt : ByteArray := prog_2_method_12_code
def yX0_bitAt : MethodName := ⟨RX0, "bitAt", "(I)I"⟩
abbrev cX0_byteAt : ByteArray := prog_2_method_13_code
def yX0_byteAt : MethodName := ⟨RX0, "byteAt", "(I)I"⟩
def RX1 : String := "FaxFilter$BitsOut"
def TX1 : u_T := fun k => match k with
  | 0 => ("FaxFilter$BitsOut", "bytes", "[B", true)
  | _ => ("FaxFilter$BitsOut", "bits", "I", false)
def tyX1 : Nat → FieldType := fun k => match k with
  | 0 => .array .byte
  | _ => .int
abbrev wsX10 : List Cond := u_ws RX1 TX1 2
theorem nmX1 : ∀ a, a < 2 → ∀ b, b < 2 → a ≠ b → (TX1 a).2.1 ≠ (TX1 b).2.1 := by decide +kernel
theorem tyX1_ok : ∀ k, k < 2 → parseFieldDescriptor (TX1 k).2.2.1 = some (tyX1 k) := by decide +kernel
abbrev cX1_init : ByteArray := prog_3_method_1_code
def yX1_init : MethodName := ⟨RX1, "<init>", "(I)V"⟩
abbrev cX1_restart : ByteArray := prog_3_method_2_code
def yX1_restart : MethodName := ⟨RX1, "restart", "()V"⟩
abbrev cX1_size : ByteArray := prog_3_method_3_code
def yX1_size : MethodName := ⟨RX1, "size", "()I"⟩
abbrev cX1_byteAt : ByteArray := prog_3_method_4_code
def yX1_byteAt : MethodName := ⟨RX1, "byteAt", "(I)I"⟩
abbrev cX1_send : ByteArray := prog_3_method_5_code
def yX1_send : MethodName := ⟨RX1, "send", "(II)V"⟩
abbrev cX1_alignFor : ByteArray := prog_3_method_6_code
def yX1_alignFor : MethodName := ⟨RX1, "alignFor", "(I)V"⟩
def RX2 : String := "FaxFilter$Picture"
def TX2 : u_T := fun k => match k with
  | 0 => ("FaxFilter$Picture", "columns", "I", true)
  | 1 => ("FaxFilter$Picture", "rows", "I", false)
  | 2 => ("FaxFilter$Picture", "wide", "I", true)
  | 3 => ("FaxFilter$Picture", "words", "[J", true)
  | _ => ("FaxFilter$Picture", "states", "[I", true)
def tyX2 : Nat → FieldType := fun k => match k with
  | 0 => .int
  | 1 => .int
  | 2 => .int
  | 3 => .array .long
  | _ => .array .int
abbrev wsX20 : List Cond := u_ws RX2 TX2 5
theorem nmX2 : ∀ a, a < 5 → ∀ b, b < 5 → a ≠ b → (TX2 a).2.1 ≠ (TX2 b).2.1 := by decide +kernel
theorem tyX2_ok : ∀ k, k < 5 → parseFieldDescriptor (TX2 k).2.2.1 = some (tyX2 k) := by decide +kernel
abbrev cX2_init : ByteArray := prog_4_method_1_code
def yX2_init : MethodName := ⟨RX2, "<init>", "(I)V"⟩
abbrev cX2_has : ByteArray := prog_4_method_2_code
def yX2_has : MethodName := ⟨RX2, "has", "(I)Z"⟩
abbrev cX2_stateOf : ByteArray := prog_4_method_3_code
def yX2_stateOf : MethodName := ⟨RX2, "stateOf", "(I)I"⟩
abbrev cX2_mend : ByteArray := prog_4_method_4_code
def yX2_mend : MethodName := ⟨RX2, "mend", "(I)V"⟩
abbrev cX2_keep : ByteArray := prog_4_method_5_code
def yX2_keep : MethodName := ⟨RX2, "keep", "(I)V"⟩
abbrev cX2_whiten : ByteArray := prog_4_method_6_code
def yX2_whiten : MethodName := ⟨RX2, "whiten", "(I)V"⟩
abbrev cX2_copyAbove : ByteArray := prog_4_method_7_code
def yX2_copyAbove : MethodName := ⟨RX2, "copyAbove", "(I)V"⟩
abbrev cX2_paint : ByteArray := prog_4_method_8_code
def yX2_paint : MethodName := ⟨RX2, "paint", "(IIIZ)V"⟩
abbrev cX2_isDark : ByteArray := prog_4_method_9_code
def yX2_isDark : MethodName := ⟨RX2, "isDark", "(II)Z"⟩
abbrev cX2_nextOf : ByteArray := prog_4_method_10_code
def yX2_nextOf : MethodName := ⟨RX2, "nextOf", "(IIZ)I"⟩
abbrev cX2_changeTo : ByteArray := prog_4_method_11_code
def yX2_changeTo : MethodName := ⟨RX2, "changeTo", "(IIZ)I"⟩
abbrev cX2_countRuns : ByteArray := prog_4_method_12_code
def yX2_countRuns : MethodName := ⟨RX2, "countRuns", "(I)I"⟩
abbrev cX2_lengthOfRun : ByteArray := prog_4_method_13_code
def yX2_lengthOfRun : MethodName := ⟨RX2, "lengthOfRun", "(II)I"⟩
abbrev cX2_indexOf : ByteArray := prog_4_method_14_code
def yX2_indexOf : MethodName := ⟨RX2, "indexOf", "(II)I"⟩
abbrev cX2_wordOf : ByteArray := prog_4_method_15_code
def yX2_wordOf : MethodName := ⟨RX2, "wordOf", "(II)J"⟩
def RX3 : String := "FaxFilter$Receiver"
def TX3 : u_T := fun k => match k with
  | 0 => ("FaxFilter$Receiver", "damaged", "I", false)
  | 1 => ("FaxFilter$Receiver", "settings", "LFaxFilter$Settings;", true)
  | 2 => ("FaxFilter$Receiver", "picture", "LFaxFilter$Picture;", true)
  | 3 => ("FaxFilter$Receiver", "whiteTable", "LFaxFilter$Table;", true)
  | 4 => ("FaxFilter$Receiver", "darkTable", "LFaxFilter$Table;", true)
  | 5 => ("FaxFilter$Receiver", "in", "LFaxFilter$BitsIn;", true)
  | 6 => ("FaxFilter$Receiver", "isPlain", "Z", false)
  | 7 => ("FaxFilter$Receiver", "reached", "I", false)
  | _ => ("FaxFilter$Receiver", "isCut", "Z", false)
def tyX3 : Nat → FieldType := fun k => match k with
  | 0 => .int
  | 1 => .object "FaxFilter$Settings"
  | 2 => .object "FaxFilter$Picture"
  | 3 => .object "FaxFilter$Table"
  | 4 => .object "FaxFilter$Table"
  | 5 => .object "FaxFilter$BitsIn"
  | 6 => .boolean
  | 7 => .int
  | _ => .boolean
abbrev wsX30 : List Cond := u_ws RX3 TX3 9
theorem nmX3 : ∀ a, a < 9 → ∀ b, b < 9 → a ≠ b → (TX3 a).2.1 ≠ (TX3 b).2.1 := by decide +kernel
theorem tyX3_ok : ∀ k, k < 9 → parseFieldDescriptor (TX3 k).2.2.1 = some (tyX3 k) := by decide +kernel
abbrev cX3_init : ByteArray := prog_5_method_1_code
def yX3_init : MethodName := ⟨RX3, "<init>", "(LFaxFilter$Settings;LFaxFilter$Picture;LFaxFilter$Table;LFaxFilter$Table;LFaxFilter$BitsIn;)V"⟩
abbrev cX3_begin : ByteArray := prog_5_method_2_code
def yX3_begin : MethodName := ⟨RX3, "begin", "()V"⟩
abbrev cX3_reachRow : ByteArray := prog_5_method_3_code
def yX3_reachRow : MethodName := ⟨RX3, "reachRow", "()Z"⟩
abbrev cX3_readRow : ByteArray := prog_5_method_4_code
def yX3_readRow : MethodName := ⟨RX3, "readRow", "()Z"⟩
abbrev cX3_readPlain : ByteArray := prog_5_method_5_code
def yX3_readPlain : MethodName := ⟨RX3, "readPlain", "(I)I"⟩
abbrev cX3_plainStateWithout : ByteArray := prog_5_method_6_code
def yX3_plainStateWithout : MethodName := ⟨RX3, "plainStateWithout", "(I)I"⟩
abbrev cX3_readDrawn : ByteArray := prog_5_method_7_code
def yX3_readDrawn : MethodName := ⟨RX3, "readDrawn", "(I)I"⟩
abbrev cX3_layAcross : ByteArray := prog_5_method_8_code
def yX3_layAcross : MethodName := ⟨RX3, "layAcross", "(IZ)I"⟩
abbrev cX3_layTo : ByteArray := prog_5_method_9_code
def yX3_layTo : MethodName := ⟨RX3, "layTo", "(IIZ)V"⟩
abbrev cX3_readWay : ByteArray := prog_5_method_10_code
def yX3_readWay : MethodName := ⟨RX3, "readWay", "()I"⟩
abbrev cX3_readRun : ByteArray := prog_5_method_11_code
def yX3_readRun : MethodName := ⟨RX3, "readRun", "(Z)I"⟩
def RX4 : String := "FaxFilter$Sender"
def TX4 : u_T := fun k => match k with
  | 0 => ("FaxFilter$Sender", "settings", "LFaxFilter$Settings;", true)
  | 1 => ("FaxFilter$Sender", "picture", "LFaxFilter$Picture;", true)
  | 2 => ("FaxFilter$Sender", "whiteTable", "LFaxFilter$Table;", true)
  | 3 => ("FaxFilter$Sender", "darkTable", "LFaxFilter$Table;", true)
  | _ => ("FaxFilter$Sender", "out", "LFaxFilter$BitsOut;", true)
def tyX4 : Nat → FieldType := fun k => match k with
  | 0 => .object "FaxFilter$Settings"
  | 1 => .object "FaxFilter$Picture"
  | 2 => .object "FaxFilter$Table"
  | 3 => .object "FaxFilter$Table"
  | _ => .object "FaxFilter$BitsOut"
abbrev wsX40 : List Cond := u_ws RX4 TX4 5
theorem nmX4 : ∀ a, a < 5 → ∀ b, b < 5 → a ≠ b → (TX4 a).2.1 ≠ (TX4 b).2.1 := by decide +kernel
theorem tyX4_ok : ∀ k, k < 5 → parseFieldDescriptor (TX4 k).2.2.1 = some (tyX4 k) := by decide +kernel
abbrev cX4_init : ByteArray := prog_6_method_1_code
def yX4_init : MethodName := ⟨RX4, "<init>", "(LFaxFilter$Settings;LFaxFilter$Picture;LFaxFilter$Table;LFaxFilter$Table;LFaxFilter$BitsOut;)V"⟩
abbrev cX4_sendAll : ByteArray := prog_6_method_2_code
def yX4_sendAll : MethodName := ⟨RX4, "sendAll", "()V"⟩
abbrev cX4_sendStart : ByteArray := prog_6_method_3_code
def yX4_sendStart : MethodName := ⟨RX4, "sendStart", "(Z)V"⟩
abbrev cX4_sendMark : ByteArray := prog_6_method_4_code
def yX4_sendMark : MethodName := ⟨RX4, "sendMark", "(Z)V"⟩
abbrev cX4_sendEnd : ByteArray := prog_6_method_5_code
def yX4_sendEnd : MethodName := ⟨RX4, "sendEnd", "()V"⟩
abbrev cX4_sendPlain : ByteArray := prog_6_method_6_code
def yX4_sendPlain : MethodName := ⟨RX4, "sendPlain", "(I)V"⟩
abbrev cX4_sendDrawn : ByteArray := prog_6_method_7_code
def yX4_sendDrawn : MethodName := ⟨RX4, "sendDrawn", "(I)V"⟩
abbrev cX4_sendWay : ByteArray := prog_6_method_8_code
def yX4_sendWay : MethodName := ⟨RX4, "sendWay", "(I)V"⟩
abbrev cX4_sendRun : ByteArray := prog_6_method_9_code
def yX4_sendRun : MethodName := ⟨RX4, "sendRun", "(IZ)V"⟩
def RX5 : String := "FaxFilter$Settings"
def TX5 : u_T := fun k => match k with
  | 0 => ("FaxFilter$Settings", "kind", "I", true)
  | 1 => ("FaxFilter$Settings", "marks", "Z", false)
  | 2 => ("FaxFilter$Settings", "aligned", "Z", false)
  | 3 => ("FaxFilter$Settings", "darkIsZero", "Z", false)
  | _ => ("FaxFilter$Settings", "repeatDamaged", "Z", false)
def tyX5 : Nat → FieldType := fun k => match k with
  | 0 => .int
  | 1 => .boolean
  | 2 => .boolean
  | 3 => .boolean
  | _ => .boolean
abbrev wsX50 : List Cond := u_ws RX5 TX5 5
theorem nmX5 : ∀ a, a < 5 → ∀ b, b < 5 → a ≠ b → (TX5 a).2.1 ≠ (TX5 b).2.1 := by decide +kernel
theorem tyX5_ok : ∀ k, k < 5 → parseFieldDescriptor (TX5 k).2.2.1 = some (tyX5 k) := by decide +kernel
abbrev cX5_init : ByteArray := prog_7_method_1_code
def yX5_init : MethodName := ⟨RX5, "<init>", "(I)V"⟩
abbrev cX5_hasMarks : ByteArray := prog_7_method_2_code
def yX5_hasMarks : MethodName := ⟨RX5, "hasMarks", "()Z"⟩
def RX6 : String := "FaxFilter$Table"
def TX6 : u_T := fun k => match k with
  | 0 => ("FaxFilter$Table", "bits", "[I", true)
  | 1 => ("FaxFilter$Table", "codes", "[I", true)
  | 2 => ("FaxFilter$Table", "ordered", "[I", true)
  | _ => ("FaxFilter$Table", "floors", "[I", true)
def tyX6 : Nat → FieldType := fun k => match k with
  | 0 => .array .int
  | 1 => .array .int
  | 2 => .array .int
  | _ => .array .int
abbrev wsX60 : List Cond := u_ws RX6 TX6 4
theorem nmX6 : ∀ a, a < 4 → ∀ b, b < 4 → a ≠ b → (TX6 a).2.1 ≠ (TX6 b).2.1 := by decide +kernel
theorem tyX6_ok : ∀ k, k < 4 → parseFieldDescriptor (TX6 k).2.2.1 = some (tyX6 k) := by decide +kernel
abbrev cX6_init : ByteArray := prog_8_method_1_code
def yX6_init : MethodName := ⟨RX6, "<init>", "([B)V"⟩
abbrev cX6_slotOf : ByteArray := prog_8_method_2_code
def yX6_slotOf : MethodName := ⟨RX6, "slotOf", "(I)I"⟩
abbrev cX6_slotOfMake : ByteArray := prog_8_method_3_code
def yX6_slotOfMake : MethodName := ⟨RX6, "slotOfMake", "(I)I"⟩
abbrev cX6_runOf : ByteArray := prog_8_method_4_code
def yX6_runOf : MethodName := ⟨RX6, "runOf", "(I)I"⟩
abbrev cX6_bitsOf : ByteArray := prog_8_method_5_code
def yX6_bitsOf : MethodName := ⟨RX6, "bitsOf", "(I)I"⟩
abbrev cX6_codeOf : ByteArray := prog_8_method_6_code
def yX6_codeOf : MethodName := ⟨RX6, "codeOf", "(I)I"⟩
abbrev cX6_slotBeginning : ByteArray := prog_8_method_7_code
def yX6_slotBeginning : MethodName := ⟨RX6, "slotBeginning", "(I)I"⟩
def RX7 : String := "FaxFilter"
def TX7 : u_T := fun k => match k with
  | 0 => ("FaxFilter", "settings", "LFaxFilter$Settings;", true)
  | 1 => ("FaxFilter", "picture", "LFaxFilter$Picture;", true)
  | 2 => ("FaxFilter", "whiteTable", "LFaxFilter$Table;", true)
  | 3 => ("FaxFilter", "darkTable", "LFaxFilter$Table;", true)
  | 4 => ("FaxFilter", "collected", "LFaxFilter$BitsIn;", true)
  | 5 => ("FaxFilter", "written", "LFaxFilter$BitsOut;", true)
  | 6 => ("FaxFilter", "sender", "LFaxFilter$Sender;", true)
  | _ => ("FaxFilter", "receiver", "LFaxFilter$Receiver;", true)
def tyX7 : Nat → FieldType := fun k => match k with
  | 0 => .object "FaxFilter$Settings"
  | 1 => .object "FaxFilter$Picture"
  | 2 => .object "FaxFilter$Table"
  | 3 => .object "FaxFilter$Table"
  | 4 => .object "FaxFilter$BitsIn"
  | 5 => .object "FaxFilter$BitsOut"
  | 6 => .object "FaxFilter$Sender"
  | _ => .object "FaxFilter$Receiver"
abbrev wsX70 : List Cond := u_ws RX7 TX7 8
theorem nmX7 : ∀ a, a < 8 → ∀ b, b < 8 → a ≠ b → (TX7 a).2.1 ≠ (TX7 b).2.1 := by decide +kernel
theorem tyX7_ok : ∀ k, k < 8 → parseFieldDescriptor (TX7 k).2.2.1 = some (tyX7 k) := by decide +kernel
abbrev cX7_init : ByteArray := prog_1_method_1_code
def yX7_init : MethodName := ⟨RX7, "<init>", "(II)V"⟩
abbrev cX7_told : ByteArray := prog_1_method_2_code
def yX7_told : MethodName := ⟨RX7, "told", "(I)I"⟩
abbrev cX7_setting : ByteArray := prog_1_method_3_code
def yX7_setting : MethodName := ⟨RX7, "setting", "(IZ)V"⟩
abbrev cX7_add : ByteArray := prog_1_method_4_code
def yX7_add : MethodName := ⟨RX7, "add", "(JI)Z"⟩
abbrev cX7_take : ByteArray := prog_1_method_5_code
def yX7_take : MethodName := ⟨RX7, "take", "()I"⟩
abbrev cX7_drop : ByteArray := prog_1_method_6_code
def yX7_drop : MethodName := ⟨RX7, "drop", "()V"⟩
abbrev cX7_read : ByteArray := prog_1_method_7_code
def yX7_read : MethodName := ⟨RX7, "read", "(I)I"⟩
abbrev cX7_state : ByteArray := prog_1_method_8_code
def yX7_state : MethodName := ⟨RX7, "state", "(I)I"⟩
abbrev cX7_row : ByteArray := prog_1_method_9_code
def yX7_row : MethodName := ⟨RX7, "row", "()I"⟩
abbrev cX7_clear : ByteArray := prog_1_method_10_code
def yX7_clear : MethodName := ⟨RX7, "clear", "()V"⟩
abbrev cX7_put : ByteArray := prog_1_method_11_code
def yX7_put : MethodName := ⟨RX7, "put", "(IIIZ)V"⟩
abbrev cX7_bit : ByteArray := prog_1_method_12_code
def yX7_bit : MethodName := ⟨RX7, "bit", "(II)I"⟩
abbrev cX7_run : ByteArray := prog_1_method_13_code
def yX7_run : MethodName := ⟨RX7, "run", "(II)I"⟩
abbrev cX7_runs : ByteArray := prog_1_method_14_code
def yX7_runs : MethodName := ⟨RX7, "runs", "(I)I"⟩
abbrev cX7_write : ByteArray := prog_1_method_15_code
def yX7_write : MethodName := ⟨RX7, "write", "()I"⟩
abbrev cX7_octet : ByteArray := prog_1_method_16_code
def yX7_octet : MethodName := ⟨RX7, "octet", "(I)I"⟩
abbrev cX7_code : ByteArray := prog_1_method_17_code
def yX7_code : MethodName := ⟨RX7, "code", "(ZI)I"⟩
def RX8 : String := "FaxFilterModel"
def TX8 : u_T := fun k => match k with
  | 0 => ("FaxFilterModel", "thrown", "I", false)
  | 1 => ("FaxFilterModel", "kind", "I", true)
  | 2 => ("FaxFilterModel", "columns", "I", true)
  | 3 => ("FaxFilterModel", "code", "[I", true)
  | 4 => ("FaxFilterModel", "bits", "[I", true)
  | 5 => ("FaxFilterModel", "settings", "[Z", true)
  | 6 => ("FaxFilterModel", "rows", "I", false)
  | 7 => ("FaxFilterModel", "dark", "[Z", true)
  | 8 => ("FaxFilterModel", "states", "[I", true)
  | 9 => ("FaxFilterModel", "collected", "I", false)
  | 10 => ("FaxFilterModel", "bytes", "[I", true)
  | 11 => ("FaxFilterModel", "written", "I", false)
  | 12 => ("FaxFilterModel", "out", "[Z", true)
  | 13 => ("FaxFilterModel", "place", "I", false)
  | 14 => ("FaxFilterModel", "damaged", "I", false)
  | 15 => ("FaxFilterModel", "state", "I", false)
  | 16 => ("FaxFilterModel", "a", "I", false)
  | 17 => ("FaxFilterModel", "isDark", "Z", false)
  | 18 => ("FaxFilterModel", "isFirst", "Z", false)
  | 19 => ("FaxFilterModel", "b", "I", false)
  | 20 => ("FaxFilterModel", "c", "I", false)
  | _ => ("FaxFilterModel", "hadMake", "Z", false)
def tyX8 : Nat → FieldType := fun k => match k with
  | 0 => .int
  | 1 => .int
  | 2 => .int
  | 3 => .array .int
  | 4 => .array .int
  | 5 => .array .boolean
  | 6 => .int
  | 7 => .array .boolean
  | 8 => .array .int
  | 9 => .int
  | 10 => .array .int
  | 11 => .int
  | 12 => .array .boolean
  | 13 => .int
  | 14 => .int
  | 15 => .int
  | 16 => .int
  | 17 => .boolean
  | 18 => .boolean
  | 19 => .int
  | 20 => .int
  | _ => .boolean
abbrev wsX80 : List Cond := u_ws RX8 TX8 22
theorem nmX8 : ∀ a, a < 22 → ∀ b, b < 22 → a ≠ b → (TX8 a).2.1 ≠ (TX8 b).2.1 := by decide +kernel
theorem tyX8_ok : ∀ k, k < 22 → parseFieldDescriptor (TX8 k).2.2.1 = some (tyX8 k) := by decide +kernel
abbrev cX8_init : ByteArray := prog_10_method_1_code
def yX8_init : MethodName := ⟨RX8, "<init>", "(II)V"⟩
abbrev cX8_thrown : ByteArray := prog_10_method_2_code
def yX8_thrown : MethodName := ⟨RX8, "thrown", "()I"⟩
abbrev cX8_isRun : ByteArray := prog_10_method_3_code
def yX8_isRun : MethodName := ⟨RX8, "isRun", "(I)Z"⟩
abbrev cX8_in : ByteArray := prog_10_method_4_code
def yX8_in : MethodName := ⟨RX8, "in", "(III)Z"⟩
abbrev cX8_bitsOf : ByteArray := prog_10_method_5_code
def yX8_bitsOf : MethodName := ⟨RX8, "bitsOf", "(II)I"⟩
abbrev cX8_makeTable : ByteArray := prog_10_method_6_code
def yX8_makeTable : MethodName := ⟨RX8, "makeTable", "(I)V"⟩
abbrev cX8_code : ByteArray := prog_10_method_7_code
def yX8_code : MethodName := ⟨RX8, "code", "(ZI)I"⟩
abbrev cX8_told : ByteArray := prog_10_method_8_code
def yX8_told : MethodName := ⟨RX8, "told", "(I)I"⟩
abbrev cX8_setting : ByteArray := prog_10_method_9_code
def yX8_setting : MethodName := ⟨RX8, "setting", "(IZ)V"⟩
abbrev cX8_add : ByteArray := prog_10_method_10_code
def yX8_add : MethodName := ⟨RX8, "add", "(JI)Z"⟩
abbrev cX8_byteOf : ByteArray := prog_10_method_11_code
def yX8_byteOf : MethodName := ⟨RX8, "byteOf", "(I)I"⟩
abbrev cX8_take : ByteArray := prog_10_method_12_code
def yX8_take : MethodName := ⟨RX8, "take", "()I"⟩
abbrev cX8_drop : ByteArray := prog_10_method_13_code
def yX8_drop : MethodName := ⟨RX8, "drop", "()V"⟩
abbrev cX8_isRow : ByteArray := prog_10_method_14_code
def yX8_isRow : MethodName := ⟨RX8, "isRow", "(I)Z"⟩
abbrev cX8_state : ByteArray := prog_10_method_15_code
def yX8_state : MethodName := ⟨RX8, "state", "(I)I"⟩
abbrev cX8_paint : ByteArray := prog_10_method_16_code
def yX8_paint : MethodName := ⟨RX8, "paint", "(IIIZ)V"⟩
abbrev cX8_row : ByteArray := prog_10_method_17_code
def yX8_row : MethodName := ⟨RX8, "row", "()I"⟩
abbrev cX8_clear : ByteArray := prog_10_method_18_code
def yX8_clear : MethodName := ⟨RX8, "clear", "()V"⟩
abbrev cX8_put : ByteArray := prog_10_method_19_code
def yX8_put : MethodName := ⟨RX8, "put", "(IIIZ)V"⟩
abbrev cX8_bit : ByteArray := prog_10_method_20_code
def yX8_bit : MethodName := ⟨RX8, "bit", "(II)I"⟩
abbrev cX8_at : ByteArray := prog_10_method_21_code
def yX8_at : MethodName := ⟨RX8, "at", "(II)Z"⟩
abbrev cX8_isChange : ByteArray := prog_10_method_22_code
def yX8_isChange : MethodName := ⟨RX8, "isChange", "(II)Z"⟩
abbrev cX8_runsOf : ByteArray := prog_10_method_23_code
def yX8_runsOf : MethodName := ⟨RX8, "runsOf", "(I)I"⟩
abbrev cX8_runs : ByteArray := prog_10_method_24_code
def yX8_runs : MethodName := ⟨RX8, "runs", "(I)I"⟩
abbrev cX8_run : ByteArray := prog_10_method_25_code
def yX8_run : MethodName := ⟨RX8, "run", "(II)I"⟩
abbrev cX8_putBit : ByteArray := prog_10_method_26_code
def yX8_putBit : MethodName := ⟨RX8, "putBit", "(Z)V"⟩
abbrev cX8_putBits : ByteArray := prog_10_method_27_code
def yX8_putBits : MethodName := ⟨RX8, "putBits", "(II)V"⟩
abbrev cX8_putCode : ByteArray := prog_10_method_28_code
def yX8_putCode : MethodName := ⟨RX8, "putCode", "(II)V"⟩
abbrev cX8_putRun : ByteArray := prog_10_method_29_code
def yX8_putRun : MethodName := ⟨RX8, "putRun", "(ZI)V"⟩
abbrev cX8_fill : ByteArray := prog_10_method_30_code
def yX8_fill : MethodName := ⟨RX8, "fill", "(I)V"⟩
abbrev cX8_hasMarks : ByteArray := prog_10_method_31_code
def yX8_hasMarks : MethodName := ⟨RX8, "hasMarks", "()Z"⟩
abbrev cX8_isPlain : ByteArray := prog_10_method_32_code
def yX8_isPlain : MethodName := ⟨RX8, "isPlain", "(I)Z"⟩
abbrev cX8_otherFrom : ByteArray := prog_10_method_33_code
def yX8_otherFrom : MethodName := ⟨RX8, "otherFrom", "(IIZ)I"⟩
abbrev cX8_writePlain : ByteArray := prog_10_method_34_code
def yX8_writePlain : MethodName := ⟨RX8, "writePlain", "(I)V"⟩
abbrev cX8_look : ByteArray := prog_10_method_35_code
def yX8_look : MethodName := ⟨RX8, "look", "(I)V"⟩
abbrev cX8_putStep : ByteArray := prog_10_method_36_code
def yX8_putStep : MethodName := ⟨RX8, "putStep", "(I)V"⟩
abbrev cX8_begin : ByteArray := prog_10_method_37_code
def yX8_begin : MethodName := ⟨RX8, "begin", "()V"⟩
abbrev cX8_writeDrawn : ByteArray := prog_10_method_38_code
def yX8_writeDrawn : MethodName := ⟨RX8, "writeDrawn", "(I)V"⟩
abbrev cX8_putMark : ByteArray := prog_10_method_39_code
def yX8_putMark : MethodName := ⟨RX8, "putMark", "()V"⟩
abbrev cX8_write : ByteArray := prog_10_method_40_code
def yX8_write : MethodName := ⟨RX8, "write", "()I"⟩
abbrev cX8_finish : ByteArray := prog_10_method_41_code
def yX8_finish : MethodName := ⟨RX8, "finish", "()V"⟩
abbrev cX8_octet : ByteArray := prog_10_method_42_code
def yX8_octet : MethodName := ⟨RX8, "octet", "(I)I"⟩
abbrev cX8_left : ByteArray := prog_10_method_43_code
def yX8_left : MethodName := ⟨RX8, "left", "()I"⟩
abbrev cX8_bitAt : ByteArray := prog_10_method_44_code
def yX8_bitAt : MethodName := ⟨RX8, "bitAt", "(I)I"⟩
abbrev cX8_zeros : ByteArray := prog_10_method_45_code
def yX8_zeros : MethodName := ⟨RX8, "zeros", "()I"⟩
abbrev cX8_isMarkHere : ByteArray := prog_10_method_46_code
def yX8_isMarkHere : MethodName := ⟨RX8, "isMarkHere", "()Z"⟩
abbrev cX8_findMark : ByteArray := prog_10_method_47_code
def yX8_findMark : MethodName := ⟨RX8, "findMark", "()Z"⟩
abbrev cX8_begins : ByteArray := prog_10_method_48_code
def yX8_begins : MethodName := ⟨RX8, "begins", "(II)Z"⟩
abbrev cX8_takeCode : ByteArray := prog_10_method_49_code
def yX8_takeCode : MethodName := ⟨RX8, "takeCode", "(I)I"⟩
abbrev cX8_takeRun : ByteArray := prog_10_method_50_code
def yX8_takeRun : MethodName := ⟨RX8, "takeRun", "(Z)I"⟩
abbrev cX8_paintRun : ByteArray := prog_10_method_51_code
def yX8_paintRun : MethodName := ⟨RX8, "paintRun", "(IIIZ)I"⟩
abbrev cX8_readPlain : ByteArray := prog_10_method_52_code
def yX8_readPlain : MethodName := ⟨RX8, "readPlain", "(I)Z"⟩
abbrev cX8_takeStep : ByteArray := prog_10_method_53_code
def yX8_takeStep : MethodName := ⟨RX8, "takeStep", "()I"⟩
abbrev cX8_readAcross : ByteArray := prog_10_method_54_code
def yX8_readAcross : MethodName := ⟨RX8, "readAcross", "(I)Z"⟩
abbrev cX8_readDrawn : ByteArray := prog_10_method_55_code
def yX8_readDrawn : MethodName := ⟨RX8, "readDrawn", "(I)Z"⟩
abbrev cX8_readHead : ByteArray := prog_10_method_56_code
def yX8_readHead : MethodName := ⟨RX8, "readHead", "()I"⟩
abbrev cX8_repair : ByteArray := prog_10_method_57_code
def yX8_repair : MethodName := ⟨RX8, "repair", "(I)V"⟩
abbrev cX8_read : ByteArray := prog_10_method_58_code
def yX8_read : MethodName := ⟨RX8, "read", "(I)I"⟩
def RJx00060 : String := "java/lang/ArrayIndexOutOfBoundsException"
def TJx00060 : u_T := fun k => match k with
  | 0 => ("java/lang/Throwable", "backtrace", "Ljava/lang/Object;", false)
  | 1 => ("java/lang/Throwable", "detailMessage", "Ljava/lang/String;", false)
  | 2 => ("java/lang/Throwable", "cause", "Ljava/lang/Throwable;", false)
  | 3 => ("java/lang/Throwable", "stackTrace", "[Ljava/lang/StackTraceElement;", false)
  | 4 => ("java/lang/Throwable", "depth", "I", false)
  | _ => ("java/lang/Throwable", "suppressedExceptions", "Ljava/util/List;", false)
def tyJx00060 : Nat → FieldType := fun k => match k with
  | 0 => .object "java/lang/Object"
  | 1 => .object "java/lang/String"
  | 2 => .object "java/lang/Throwable"
  | 3 => .array (.object "java/lang/StackTraceElement")
  | 4 => .int
  | _ => .object "java/util/List"
abbrev wsJx000600 : List Cond := u_ws RJx00060 TJx00060 6
theorem nmJx00060 : ∀ a, a < 6 → ∀ b, b < 6 → a ≠ b → (TJx00060 a).2.1 ≠ (TJx00060 b).2.1 := by decide +kernel
theorem tyJx00060_ok : ∀ k, k < 6 → parseFieldDescriptor (TJx00060 k).2.2.1 = some (tyJx00060 k) := by decide +kernel
abbrev cJx00060_init_a7421 : ByteArray := prog_11_method_2_code
def yJx00060_init_a7421 : MethodName := ⟨RJx00060, "<init>", "(Ljava/lang/String;)V"⟩
def RJ13 : String := "java/lang/Long"
def TJ13 : u_T := fun k => match k with
  | _ => ("", "", "", false)
def tyJ13 : Nat → FieldType := fun k => match k with
  | _ => .int
abbrev wsJ130 : List Cond := u_ws RJ13 TJ13 0
theorem nmJ13 : ∀ a, a < 0 → ∀ b, b < 0 → a ≠ b → (TJ13 a).2.1 ≠ (TJ13 b).2.1 := by decide +kernel
theorem tyJ13_ok : ∀ k, k < 0 → parseFieldDescriptor (TJ13 k).2.2.1 = some (tyJ13 k) := by decide +kernel
abbrev cJ13_bitCount_95d88 : ByteArray := prog_15_method_50_code
def yJ13_bitCount_95d88 : MethodName := ⟨RJ13, "bitCount", "(J)I"⟩
def RJ9 : String := "java/lang/Math"
def TJ9 : u_T := fun k => match k with
  | _ => ("", "", "", false)
def tyJ9 : Nat → FieldType := fun k => match k with
  | _ => .int
abbrev wsJ90 : List Cond := u_ws RJ9 TJ9 0
theorem nmJ9 : ∀ a, a < 0 → ∀ b, b < 0 → a ≠ b → (TJ9 a).2.1 ≠ (TJ9 b).2.1 := by decide +kernel
theorem tyJ9_ok : ∀ k, k < 0 → parseFieldDescriptor (TJ9 k).2.2.1 = some (tyJ9 k) := by decide +kernel
abbrev cJ9_max_7cf53 : ByteArray := prog_16_method_65_code
def yJ9_max_7cf53 : MethodName := ⟨RJ9, "max", "(II)I"⟩
abbrev cJ9_min_7cf53 : ByteArray := prog_16_method_69_code
def yJ9_min_7cf53 : MethodName := ⟨RJ9, "min", "(II)I"⟩
def RJ0 : String := "java/lang/String"
def TJ0 : u_T := fun k => match k with
  | 0 => ("java/lang/String", "value", "[B", true)
  | _ => ("java/lang/String", "coder", "B", true)
def tyJ0 : Nat → FieldType := fun k => match k with
  | 0 => .array .byte
  | _ => .byte
abbrev wsJ00 : List Cond := u_ws RJ0 TJ0 2
theorem nmJ0 : ∀ a, a < 2 → ∀ b, b < 2 → a ≠ b → (TJ0 a).2.1 ≠ (TJ0 b).2.1 := by decide +kernel
theorem tyJ0_ok : ∀ k, k < 2 → parseFieldDescriptor (TJ0 k).2.2.1 = some (tyJ0 k) := by decide +kernel
def RL : String := "FaxFilterLaw"
abbrev cL_cell : ByteArray := method_2_code
def yL_cell : MethodName := ⟨RL, "cell", "([II)I"⟩
abbrev cL_told : ByteArray := method_3_code
def yL_told : MethodName := ⟨RL, "told", "(LFaxFilter;I[J)I"⟩
abbrev cL_setting : ByteArray := method_4_code
def yL_setting : MethodName := ⟨RL, "setting", "(LFaxFilter;IZ)I"⟩
abbrev cL_read : ByteArray := method_5_code
def yL_read : MethodName := ⟨RL, "read", "(LFaxFilter;I[J)I"⟩
abbrev cL_state : ByteArray := method_6_code
def yL_state : MethodName := ⟨RL, "state", "(LFaxFilter;I[J)I"⟩
abbrev cL_row : ByteArray := method_7_code
def yL_row : MethodName := ⟨RL, "row", "(LFaxFilter;[J)I"⟩
abbrev cL_put : ByteArray := method_8_code
def yL_put : MethodName := ⟨RL, "put", "(LFaxFilter;IIIZ)I"⟩
abbrev cL_bit : ByteArray := method_9_code
def yL_bit : MethodName := ⟨RL, "bit", "(LFaxFilter;II[J)I"⟩
abbrev cL_run : ByteArray := method_10_code
def yL_run : MethodName := ⟨RL, "run", "(LFaxFilter;II[J)I"⟩
abbrev cL_runs : ByteArray := method_11_code
def yL_runs : MethodName := ⟨RL, "runs", "(LFaxFilter;I[J)I"⟩
abbrev cL_octet : ByteArray := method_12_code
def yL_octet : MethodName := ⟨RL, "octet", "(LFaxFilter;I[J)I"⟩
abbrev cL_code : ByteArray := method_13_code
def yL_code : MethodName := ⟨RL, "code", "(LFaxFilter;ZI[J)I"⟩
abbrev cL_law : ByteArray := code
def yL_law : MethodName := ⟨RL, "law", "([I)Z"⟩
def wsX0_init : List Cond := .code yX0_init cX0_init 1 none :: ([.methodLink RX0 3 objectInit, .instanceMethod objectInit, .code objectInit ⟨#[0xb1]⟩ 1 none, .arrayClass .byte, .fieldLink RX0 9 "FaxFilter$BitsIn" "bytes" "[B"] ++ wsX00)
def wsX0_empty : List Cond := .code yX0_empty cX0_empty 1 none :: ([.fieldLink RX0 15 "FaxFilter$BitsIn" "size" "I"] ++ wsX00)
def wsX0_append : List Cond := .code yX0_append cX0_append 2 none :: ([.fieldLink RX0 15 "FaxFilter$BitsIn" "size" "I", .fieldLink RX0 9 "FaxFilter$BitsIn" "bytes" "[B"] ++ wsX00 ++ (vx_atM "java/lang/ArrayIndexOutOfBoundsException" ["java/lang/IndexOutOfBoundsException", "java/lang/RuntimeException", "java/lang/Exception"]).filter goodWord)
def wsX0_restart : List Cond := .code yX0_restart cX0_restart 1 none :: ([.fieldLink RX0 19 "FaxFilter$BitsIn" "passed" "I"] ++ wsX00)
def wsX0_left : List Cond := .code yX0_left cX0_left 1 (some .int) :: ([.fieldLink RX0 15 "FaxFilter$BitsIn" "size" "I", .fieldLink RX0 19 "FaxFilter$BitsIn" "passed" "I"] ++ wsX00)
def wsX0_pass : List Cond := .code yX0_pass cX0_pass 2 none :: ([.fieldLink RX0 19 "FaxFilter$BitsIn" "passed" "I", .methodLink RX0 26 Lib.Math.min.name, .static Lib.Math.min.name, .initialized "java/lang/Math", .code Lib.Math.min.name Lib.Math.min.code 2 (some .int), .methodLink RX0 22 yX0_left, .instanceMethod yX0_left, .selects RX0 yX0_left yX0_left, .initialized RX0, .code yX0_left cX0_left 1 (some .int), .fieldLink RX0 15 "FaxFilter$BitsIn" "size" "I"] ++ wsX00)
def wsX0_passToByte : List Cond := .code yX0_passToByte cX0_passToByte 1 none :: ([.fieldLink RX0 19 "FaxFilter$BitsIn" "passed" "I", .methodLink RX0 32 yX0_pass, .instanceMethod yX0_pass, .selects RX0 yX0_pass yX0_pass, .initialized RX0, .code yX0_pass cX0_pass 2 none, .methodLink RX0 26 Lib.Math.min.name, .static Lib.Math.min.name, .initialized "java/lang/Math", .code Lib.Math.min.name Lib.Math.min.code 2 (some .int), .methodLink RX0 22 yX0_left, .instanceMethod yX0_left, .selects RX0 yX0_left yX0_left, .code yX0_left cX0_left 1 (some .int), .fieldLink RX0 15 "FaxFilter$BitsIn" "size" "I"] ++ wsX00)
def wsX0_byteAt : List Cond := .code yX0_byteAt cX0_byteAt 2 (some .int) :: ([.fieldLink RX0 15 "FaxFilter$BitsIn" "size" "I", .fieldLink RX0 9 "FaxFilter$BitsIn" "bytes" "[B"] ++ wsX00 ++ (vx_atM "java/lang/ArrayIndexOutOfBoundsException" ["java/lang/IndexOutOfBoundsException", "java/lang/RuntimeException", "java/lang/Exception"]).filter goodWord)
def wsX0_peek : List Cond := .code yX0_peek cX0_peek 4 (some .int) :: ([.fieldLink RX0 19 "FaxFilter$BitsIn" "passed" "I", .methodLink RX0 36 yX0_byteAt, .instanceMethod yX0_byteAt, .selects RX0 yX0_byteAt yX0_byteAt, .initialized RX0, .code yX0_byteAt cX0_byteAt 2 (some .int), .fieldLink RX0 15 "FaxFilter$BitsIn" "size" "I", .fieldLink RX0 9 "FaxFilter$BitsIn" "bytes" "[B"] ++ wsX00 ++ (vx_atM "java/lang/ArrayIndexOutOfBoundsException" ["java/lang/IndexOutOfBoundsException", "java/lang/RuntimeException", "java/lang/Exception"]).filter goodWord)
def wsX0_bitAt : List Cond := .code yX0_bitAt cX0_bitAt 2 (some .int) :: ([.methodLink RX0 36 yX0_byteAt, .instanceMethod yX0_byteAt, .selects RX0 yX0_byteAt yX0_byteAt, .initialized RX0, .code yX0_byteAt cX0_byteAt 2 (some .int), .fieldLink RX0 15 "FaxFilter$BitsIn" "size" "I", .fieldLink RX0 9 "FaxFilter$BitsIn" "bytes" "[B"] ++ wsX00 ++ (vx_atM "java/lang/ArrayIndexOutOfBoundsException" ["java/lang/IndexOutOfBoundsException", "java/lang/RuntimeException", "java/lang/Exception"]).filter goodWord)
def wsX0_zeros : List Cond := .code yX0_zeros cX0_zeros 3 (some .int) :: ([.fieldLink RX0 19 "FaxFilter$BitsIn" "passed" "I", .methodLink RX0 22 yX0_left, .instanceMethod yX0_left, .selects RX0 yX0_left yX0_left, .initialized RX0, .code yX0_left cX0_left 1 (some .int), .fieldLink RX0 15 "FaxFilter$BitsIn" "size" "I", .methodLink RX0 40 yX0_bitAt, .instanceMethod yX0_bitAt, .selects RX0 yX0_bitAt yX0_bitAt, .code yX0_bitAt cX0_bitAt 2 (some .int), .methodLink RX0 36 yX0_byteAt, .instanceMethod yX0_byteAt, .selects RX0 yX0_byteAt yX0_byteAt, .code yX0_byteAt cX0_byteAt 2 (some .int), .fieldLink RX0 9 "FaxFilter$BitsIn" "bytes" "[B"] ++ wsX00 ++ (vx_atM "java/lang/ArrayIndexOutOfBoundsException" ["java/lang/IndexOutOfBoundsException", "java/lang/RuntimeException", "java/lang/Exception"]).filter goodWord)
def wsX0_isMarkNext : List Cond := .code yX0_isMarkNext cX0_isMarkNext 2 (some .boolean) :: ([.methodLink RX0 43 yX0_zeros, .instanceMethod yX0_zeros, .selects RX0 yX0_zeros yX0_zeros, .initialized RX0, .code yX0_zeros cX0_zeros 3 (some .int), .fieldLink RX0 19 "FaxFilter$BitsIn" "passed" "I", .methodLink RX0 22 yX0_left, .instanceMethod yX0_left, .selects RX0 yX0_left yX0_left, .code yX0_left cX0_left 1 (some .int), .fieldLink RX0 15 "FaxFilter$BitsIn" "size" "I", .methodLink RX0 40 yX0_bitAt, .instanceMethod yX0_bitAt, .selects RX0 yX0_bitAt yX0_bitAt, .code yX0_bitAt cX0_bitAt 2 (some .int), .methodLink RX0 36 yX0_byteAt, .instanceMethod yX0_byteAt, .selects RX0 yX0_byteAt yX0_byteAt, .code yX0_byteAt cX0_byteAt 2 (some .int), .fieldLink RX0 9 "FaxFilter$BitsIn" "bytes" "[B"] ++ wsX00 ++ (vx_atM "java/lang/ArrayIndexOutOfBoundsException" ["java/lang/IndexOutOfBoundsException", "java/lang/RuntimeException", "java/lang/Exception"]).filter goodWord)
def wsX0_passMark : List Cond := .code yX0_passMark cX0_passMark 5 (some .boolean) :: ([.fieldLink RX0 15 "FaxFilter$BitsIn" "size" "I", .fieldLink RX0 19 "FaxFilter$BitsIn" "passed" "I", .methodLink RX0 40 yX0_bitAt, .instanceMethod yX0_bitAt, .selects RX0 yX0_bitAt yX0_bitAt, .initialized RX0, .code yX0_bitAt cX0_bitAt 2 (some .int), .methodLink RX0 36 yX0_byteAt, .instanceMethod yX0_byteAt, .selects RX0 yX0_byteAt yX0_byteAt, .code yX0_byteAt cX0_byteAt 2 (some .int), .fieldLink RX0 9 "FaxFilter$BitsIn" "bytes" "[B"] ++ wsX00 ++ (vx_atM "java/lang/ArrayIndexOutOfBoundsException" ["java/lang/IndexOutOfBoundsException", "java/lang/RuntimeException", "java/lang/Exception"]).filter goodWord)
def wsX1_init : List Cond := .code yX1_init cX1_init 2 none :: ([.methodLink RX1 3 objectInit, .instanceMethod objectInit, .code objectInit ⟨#[0xb1]⟩ 1 none, .arrayClass .byte, .fieldLink RX1 9 "FaxFilter$BitsOut" "bytes" "[B"] ++ wsX10)
def wsX1_restart : List Cond := .code yX1_restart cX1_restart 1 none :: ([.fieldLink RX1 15 "FaxFilter$BitsOut" "bits" "I"] ++ wsX10)
def wsX1_size : List Cond := .code yX1_size cX1_size 1 (some .int) :: ([.fieldLink RX1 15 "FaxFilter$BitsOut" "bits" "I"] ++ wsX10)
def wsX1_byteAt : List Cond := .code yX1_byteAt cX1_byteAt 2 (some .int) :: ([.fieldLink RX1 9 "FaxFilter$BitsOut" "bytes" "[B"] ++ wsX10 ++ (vx_atM "java/lang/ArrayIndexOutOfBoundsException" ["java/lang/IndexOutOfBoundsException", "java/lang/RuntimeException", "java/lang/Exception"]).filter goodWord)
def wsX1_send : List Cond := .code yX1_send cX1_send 7 none :: ([.fieldLink RX1 15 "FaxFilter$BitsOut" "bits" "I", .fieldLink RX1 9 "FaxFilter$BitsOut" "bytes" "[B"] ++ wsX10 ++ (vx_atM "java/lang/ArrayIndexOutOfBoundsException" ["java/lang/IndexOutOfBoundsException", "java/lang/RuntimeException", "java/lang/Exception"]).filter goodWord)
def wsX1_alignFor : List Cond := .code yX1_alignFor cX1_alignFor 2 none :: ([.fieldLink RX1 15 "FaxFilter$BitsOut" "bits" "I", .methodLink RX1 19 yX1_send, .instanceMethod yX1_send, .selects RX1 yX1_send yX1_send, .initialized RX1, .code yX1_send cX1_send 7 none, .fieldLink RX1 9 "FaxFilter$BitsOut" "bytes" "[B"] ++ wsX10 ++ (vx_atM "java/lang/ArrayIndexOutOfBoundsException" ["java/lang/IndexOutOfBoundsException", "java/lang/RuntimeException", "java/lang/Exception"]).filter goodWord)
def wsX2_init : List Cond := .code yX2_init cX2_init 2 none :: ([.methodLink RX2 3 objectInit, .instanceMethod objectInit, .code objectInit ⟨#[0xb1]⟩ 1 none, .arrayClass .int, .fieldLink RX2 9 "FaxFilter$Picture" "states" "[I", .fieldLink RX2 15 "FaxFilter$Picture" "columns" "I", .fieldLink RX2 19 "FaxFilter$Picture" "wide" "I", .arrayClass .long, .fieldLink RX2 22 "FaxFilter$Picture" "words" "[J"] ++ wsX20)
def wsX2_has : List Cond := .code yX2_has cX2_has 2 (some .boolean) :: ([.fieldLink RX2 26 "FaxFilter$Picture" "rows" "I"] ++ wsX20)
def wsX2_stateOf : List Cond := .code yX2_stateOf cX2_stateOf 2 (some .int) :: ([.fieldLink RX2 9 "FaxFilter$Picture" "states" "[I"] ++ wsX20 ++ (vx_atM "java/lang/ArrayIndexOutOfBoundsException" ["java/lang/IndexOutOfBoundsException", "java/lang/RuntimeException", "java/lang/Exception"]).filter goodWord)
def wsX2_mend : List Cond := .code yX2_mend cX2_mend 2 none :: ([.fieldLink RX2 9 "FaxFilter$Picture" "states" "[I"] ++ wsX20 ++ (vx_atM "java/lang/ArrayIndexOutOfBoundsException" ["java/lang/IndexOutOfBoundsException", "java/lang/RuntimeException", "java/lang/Exception"]).filter goodWord)
def wsX2_keep : List Cond := .code yX2_keep cX2_keep 2 none :: ([.fieldLink RX2 26 "FaxFilter$Picture" "rows" "I", .fieldLink RX2 9 "FaxFilter$Picture" "states" "[I"] ++ wsX20 ++ (vx_atM "java/lang/ArrayIndexOutOfBoundsException" ["java/lang/IndexOutOfBoundsException", "java/lang/RuntimeException", "java/lang/Exception"]).filter goodWord)
def wsX2_indexOf : List Cond := .code yX2_indexOf cX2_indexOf 4 (some .int) :: ([.fieldLink RX2 19 "FaxFilter$Picture" "wide" "I"] ++ wsX20)
def wsX2_paint : List Cond := .code yX2_paint cX2_paint 13 none :: ([.fieldLink RX2 15 "FaxFilter$Picture" "columns" "I", .constantLong RX2 41 (-1), .methodLink RX2 43 Lib.Math.max.name, .static Lib.Math.max.name, .initialized "java/lang/Math", .code Lib.Math.max.name Lib.Math.max.code 2 (some .int), .methodLink RX2 48 Lib.Math.min.name, .static Lib.Math.min.name, .code Lib.Math.min.name Lib.Math.min.code 2 (some .int), .fieldLink RX2 22 "FaxFilter$Picture" "words" "[J", .methodLink RX2 33 yX2_indexOf, .instanceMethod yX2_indexOf, .selects RX2 yX2_indexOf yX2_indexOf, .initialized RX2, .code yX2_indexOf cX2_indexOf 4 (some .int), .fieldLink RX2 19 "FaxFilter$Picture" "wide" "I"] ++ wsX20 ++ (vx_atM "java/lang/ArrayIndexOutOfBoundsException" ["java/lang/IndexOutOfBoundsException", "java/lang/RuntimeException", "java/lang/Exception"]).filter goodWord)
def wsX2_whiten : List Cond := .code yX2_whiten cX2_whiten 2 none :: ([.fieldLink RX2 15 "FaxFilter$Picture" "columns" "I", .methodLink RX2 29 yX2_paint, .instanceMethod yX2_paint, .selects RX2 yX2_paint yX2_paint, .initialized RX2, .code yX2_paint cX2_paint 13 none, .constantLong RX2 41 (-1), .methodLink RX2 43 Lib.Math.max.name, .static Lib.Math.max.name, .initialized "java/lang/Math", .code Lib.Math.max.name Lib.Math.max.code 2 (some .int), .methodLink RX2 48 Lib.Math.min.name, .static Lib.Math.min.name, .code Lib.Math.min.name Lib.Math.min.code 2 (some .int), .fieldLink RX2 22 "FaxFilter$Picture" "words" "[J", .methodLink RX2 33 yX2_indexOf, .instanceMethod yX2_indexOf, .selects RX2 yX2_indexOf yX2_indexOf, .code yX2_indexOf cX2_indexOf 4 (some .int), .fieldLink RX2 19 "FaxFilter$Picture" "wide" "I"] ++ wsX20 ++ (vx_atM "java/lang/ArrayIndexOutOfBoundsException" ["java/lang/IndexOutOfBoundsException", "java/lang/RuntimeException", "java/lang/Exception"]).filter goodWord)
def wsX2_wordOf : List Cond := .code yX2_wordOf cX2_wordOf 4 (some .long) :: ([.fieldLink RX2 22 "FaxFilter$Picture" "words" "[J", .methodLink RX2 33 yX2_indexOf, .instanceMethod yX2_indexOf, .selects RX2 yX2_indexOf yX2_indexOf, .initialized RX2, .code yX2_indexOf cX2_indexOf 4 (some .int), .fieldLink RX2 19 "FaxFilter$Picture" "wide" "I"] ++ wsX20 ++ (vx_atM "java/lang/ArrayIndexOutOfBoundsException" ["java/lang/IndexOutOfBoundsException", "java/lang/RuntimeException", "java/lang/Exception"]).filter goodWord)
def wsX2_copyAbove : List Cond := .code yX2_copyAbove cX2_copyAbove 4 none :: ([.fieldLink RX2 19 "FaxFilter$Picture" "wide" "I", .fieldLink RX2 22 "FaxFilter$Picture" "words" "[J", .methodLink RX2 33 yX2_indexOf, .instanceMethod yX2_indexOf, .selects RX2 yX2_indexOf yX2_indexOf, .initialized RX2, .code yX2_indexOf cX2_indexOf 4 (some .int), .methodLink RX2 37 yX2_wordOf, .instanceMethod yX2_wordOf, .selects RX2 yX2_wordOf yX2_wordOf, .code yX2_wordOf cX2_wordOf 4 (some .long)] ++ wsX20 ++ (vx_atM "java/lang/ArrayIndexOutOfBoundsException" ["java/lang/IndexOutOfBoundsException", "java/lang/RuntimeException", "java/lang/Exception"]).filter goodWord)
def wsX2_isDark : List Cond := .code yX2_isDark cX2_isDark 3 (some .boolean) :: ([.fieldLink RX2 15 "FaxFilter$Picture" "columns" "I", .methodLink RX2 37 yX2_wordOf, .instanceMethod yX2_wordOf, .selects RX2 yX2_wordOf yX2_wordOf, .initialized RX2, .code yX2_wordOf cX2_wordOf 4 (some .long), .fieldLink RX2 22 "FaxFilter$Picture" "words" "[J", .methodLink RX2 33 yX2_indexOf, .instanceMethod yX2_indexOf, .selects RX2 yX2_indexOf yX2_indexOf, .code yX2_indexOf cX2_indexOf 4 (some .int), .fieldLink RX2 19 "FaxFilter$Picture" "wide" "I"] ++ wsX20 ++ (vx_atM "java/lang/ArrayIndexOutOfBoundsException" ["java/lang/IndexOutOfBoundsException", "java/lang/RuntimeException", "java/lang/Exception"]).filter goodWord)
def wsJ13_bitCount_95d88 : List Cond := .code yJ13_bitCount_95d88 cJ13_bitCount_95d88 2 (some .int) :: ([.constantLong RJ13 314 (6148914691236517205), .constantLong RJ13 316 (3689348814741910323), .constantLong RJ13 318 (1085102592571150095)])
def wsX2_nextOf_r1 : List Cond := [Cond.methodLink RX2 43 Lib.Math.max.name, Cond.static Lib.Math.max.name, Cond.initialized "java/lang/Math", Cond.code Lib.Math.max.name Lib.Math.max.code 2 (some .int), Cond.fieldLink RX2 15 "FaxFilter$Picture" "columns" "I", Cond.constantLong RX2 41 (-1), Cond.methodLink RX2 48 Lib.Math.min.name, Cond.static Lib.Math.min.name, Cond.code Lib.Math.min.name Lib.Math.min.code 2 (some .int), Cond.methodLink RX2 37 yX2_wordOf, Cond.instanceMethod yX2_wordOf, Cond.selects RX2 yX2_wordOf yX2_wordOf, Cond.initialized RX2, Cond.code yX2_wordOf cX2_wordOf 4 (some .long), Cond.fieldLink RX2 22 "FaxFilter$Picture" "words" "[J", Cond.methodLink RX2 33 yX2_indexOf, Cond.instanceMethod yX2_indexOf, Cond.selects RX2 yX2_indexOf yX2_indexOf, Cond.code yX2_indexOf cX2_indexOf 4 (some .int), Cond.fieldLink RX2 19 "FaxFilter$Picture" "wide" "I", Cond.methodLink RX2 51 yJ13_bitCount_95d88, Cond.static yJ13_bitCount_95d88, Cond.initialized RJ13, Cond.code yJ13_bitCount_95d88 cJ13_bitCount_95d88 2 (some .int)]
def wsX2_nextOf_r2 : List Cond := [Cond.constantLong RJ13 314 (6148914691236517205), Cond.constantLong RJ13 316 (3689348814741910323), Cond.constantLong RJ13 318 (1085102592571150095)]
def wsX2_nextOf : List Cond := .code yX2_nextOf cX2_nextOf 10 (some .int) :: ((wsX2_nextOf_r1 ++ wsX2_nextOf_r2) ++ wsX20 ++ (vx_atM "java/lang/ArrayIndexOutOfBoundsException" ["java/lang/IndexOutOfBoundsException", "java/lang/RuntimeException", "java/lang/Exception"]).filter goodWord)
def wsX2_changeTo_r1 : List Cond := [Cond.methodLink RX2 57 yX2_isDark, Cond.instanceMethod yX2_isDark, Cond.selects RX2 yX2_isDark yX2_isDark, Cond.initialized RX2, Cond.code yX2_isDark cX2_isDark 3 (some .boolean), Cond.fieldLink RX2 15 "FaxFilter$Picture" "columns" "I", Cond.methodLink RX2 37 yX2_wordOf, Cond.instanceMethod yX2_wordOf, Cond.selects RX2 yX2_wordOf yX2_wordOf, Cond.code yX2_wordOf cX2_wordOf 4 (some .long), Cond.fieldLink RX2 22 "FaxFilter$Picture" "words" "[J", Cond.methodLink RX2 33 yX2_indexOf, Cond.instanceMethod yX2_indexOf, Cond.selects RX2 yX2_indexOf yX2_indexOf, Cond.code yX2_indexOf cX2_indexOf 4 (some .int), Cond.fieldLink RX2 19 "FaxFilter$Picture" "wide" "I", Cond.methodLink RX2 61 yX2_nextOf, Cond.instanceMethod yX2_nextOf, Cond.selects RX2 yX2_nextOf yX2_nextOf, Cond.code yX2_nextOf cX2_nextOf 10 (some .int), Cond.methodLink RX2 43 Lib.Math.max.name, Cond.static Lib.Math.max.name, Cond.initialized "java/lang/Math", Cond.code Lib.Math.max.name Lib.Math.max.code 2 (some .int)]
def wsX2_changeTo_r2 : List Cond := [Cond.constantLong RX2 41 (-1), Cond.methodLink RX2 48 Lib.Math.min.name, Cond.static Lib.Math.min.name, Cond.code Lib.Math.min.name Lib.Math.min.code 2 (some .int), Cond.methodLink RX2 51 yJ13_bitCount_95d88, Cond.static yJ13_bitCount_95d88, Cond.initialized RJ13, Cond.code yJ13_bitCount_95d88 cJ13_bitCount_95d88 2 (some .int), Cond.constantLong RJ13 314 (6148914691236517205), Cond.constantLong RJ13 316 (3689348814741910323), Cond.constantLong RJ13 318 (1085102592571150095)]
def wsX2_changeTo : List Cond := .code yX2_changeTo cX2_changeTo 5 (some .int) :: ((wsX2_changeTo_r1 ++ wsX2_changeTo_r2) ++ wsX20 ++ (vx_atM "java/lang/ArrayIndexOutOfBoundsException" ["java/lang/IndexOutOfBoundsException", "java/lang/RuntimeException", "java/lang/Exception"]).filter goodWord)
def wsX2_countRuns_r1 : List Cond := [Cond.fieldLink RX2 15 "FaxFilter$Picture" "columns" "I", Cond.methodLink RX2 61 yX2_nextOf, Cond.instanceMethod yX2_nextOf, Cond.selects RX2 yX2_nextOf yX2_nextOf, Cond.initialized RX2, Cond.code yX2_nextOf cX2_nextOf 10 (some .int), Cond.methodLink RX2 43 Lib.Math.max.name, Cond.static Lib.Math.max.name, Cond.initialized "java/lang/Math", Cond.code Lib.Math.max.name Lib.Math.max.code 2 (some .int), Cond.constantLong RX2 41 (-1), Cond.methodLink RX2 48 Lib.Math.min.name, Cond.static Lib.Math.min.name, Cond.code Lib.Math.min.name Lib.Math.min.code 2 (some .int), Cond.methodLink RX2 37 yX2_wordOf, Cond.instanceMethod yX2_wordOf, Cond.selects RX2 yX2_wordOf yX2_wordOf, Cond.code yX2_wordOf cX2_wordOf 4 (some .long), Cond.fieldLink RX2 22 "FaxFilter$Picture" "words" "[J", Cond.methodLink RX2 33 yX2_indexOf, Cond.instanceMethod yX2_indexOf, Cond.selects RX2 yX2_indexOf yX2_indexOf, Cond.code yX2_indexOf cX2_indexOf 4 (some .int), Cond.fieldLink RX2 19 "FaxFilter$Picture" "wide" "I"]
def wsX2_countRuns_r2 : List Cond := [Cond.methodLink RX2 51 yJ13_bitCount_95d88, Cond.static yJ13_bitCount_95d88, Cond.initialized RJ13, Cond.code yJ13_bitCount_95d88 cJ13_bitCount_95d88 2 (some .int), Cond.constantLong RJ13 314 (6148914691236517205), Cond.constantLong RJ13 316 (3689348814741910323), Cond.constantLong RJ13 318 (1085102592571150095)]
def wsX2_countRuns : List Cond := .code yX2_countRuns cX2_countRuns 5 (some .int) :: ((wsX2_countRuns_r1 ++ wsX2_countRuns_r2) ++ wsX20 ++ (vx_atM "java/lang/ArrayIndexOutOfBoundsException" ["java/lang/IndexOutOfBoundsException", "java/lang/RuntimeException", "java/lang/Exception"]).filter goodWord)
def wsX2_lengthOfRun_r1 : List Cond := [Cond.fieldLink RX2 15 "FaxFilter$Picture" "columns" "I", Cond.methodLink RX2 61 yX2_nextOf, Cond.instanceMethod yX2_nextOf, Cond.selects RX2 yX2_nextOf yX2_nextOf, Cond.initialized RX2, Cond.code yX2_nextOf cX2_nextOf 10 (some .int), Cond.methodLink RX2 43 Lib.Math.max.name, Cond.static Lib.Math.max.name, Cond.initialized "java/lang/Math", Cond.code Lib.Math.max.name Lib.Math.max.code 2 (some .int), Cond.constantLong RX2 41 (-1), Cond.methodLink RX2 48 Lib.Math.min.name, Cond.static Lib.Math.min.name, Cond.code Lib.Math.min.name Lib.Math.min.code 2 (some .int), Cond.methodLink RX2 37 yX2_wordOf, Cond.instanceMethod yX2_wordOf, Cond.selects RX2 yX2_wordOf yX2_wordOf, Cond.code yX2_wordOf cX2_wordOf 4 (some .long), Cond.fieldLink RX2 22 "FaxFilter$Picture" "words" "[J", Cond.methodLink RX2 33 yX2_indexOf, Cond.instanceMethod yX2_indexOf, Cond.selects RX2 yX2_indexOf yX2_indexOf, Cond.code yX2_indexOf cX2_indexOf 4 (some .int), Cond.fieldLink RX2 19 "FaxFilter$Picture" "wide" "I"]
def wsX2_lengthOfRun_r2 : List Cond := [Cond.methodLink RX2 51 yJ13_bitCount_95d88, Cond.static yJ13_bitCount_95d88, Cond.initialized RJ13, Cond.code yJ13_bitCount_95d88 cJ13_bitCount_95d88 2 (some .int), Cond.constantLong RJ13 314 (6148914691236517205), Cond.constantLong RJ13 316 (3689348814741910323), Cond.constantLong RJ13 318 (1085102592571150095)]
def wsX2_lengthOfRun : List Cond := .code yX2_lengthOfRun cX2_lengthOfRun 7 (some .int) :: ((wsX2_lengthOfRun_r1 ++ wsX2_lengthOfRun_r2) ++ wsX20 ++ (vx_atM "java/lang/ArrayIndexOutOfBoundsException" ["java/lang/IndexOutOfBoundsException", "java/lang/RuntimeException", "java/lang/Exception"]).filter goodWord)
def wsX3_init : List Cond := .code yX3_init cX3_init 6 none :: ([.methodLink RX3 3 objectInit, .instanceMethod objectInit, .code objectInit ⟨#[0xb1]⟩ 1 none, .fieldLink RX3 9 "FaxFilter$Receiver" "settings" "LFaxFilter$Settings;", .fieldLink RX3 15 "FaxFilter$Receiver" "picture" "LFaxFilter$Picture;", .fieldLink RX3 19 "FaxFilter$Receiver" "whiteTable" "LFaxFilter$Table;", .fieldLink RX3 23 "FaxFilter$Receiver" "darkTable" "LFaxFilter$Table;", .fieldLink RX3 26 "FaxFilter$Receiver" "in" "LFaxFilter$BitsIn;"] ++ wsX30)
def wsX3_begin : List Cond := .code yX3_begin cX3_begin 1 none :: ([.fieldLink RX3 26 "FaxFilter$Receiver" "in" "LFaxFilter$BitsIn;", .fieldLink RX3 15 "FaxFilter$Receiver" "picture" "LFaxFilter$Picture;", .fieldLink RX3 35 "FaxFilter$Picture" "rows" "I", .fieldLink RX3 41 "FaxFilter$Receiver" "damaged" "I", .methodLink RX3 30 yX0_restart, .instanceMethod yX0_restart, .selects RX0 yX0_restart yX0_restart, .initialized RX0, .code yX0_restart cX0_restart 1 none, .fieldLink RX0 19 "FaxFilter$BitsIn" "passed" "I"] ++ wsX30 ++ wsX20 ++ wsX00)
def wsX5_hasMarks : List Cond := .code yX5_hasMarks cX5_hasMarks 1 (some .boolean) :: ([.fieldLink RX5 9 "FaxFilter$Settings" "kind" "I", .fieldLink RX5 15 "FaxFilter$Settings" "marks" "Z"] ++ wsX50)
def wsX3_reachRow_r1 : List Cond := [Cond.fieldLink RX3 9 "FaxFilter$Receiver" "settings" "LFaxFilter$Settings;", Cond.fieldLink RX3 26 "FaxFilter$Receiver" "in" "LFaxFilter$BitsIn;", Cond.fieldLink RX3 53 "FaxFilter$Settings" "kind" "I", Cond.fieldLink RX3 56 "FaxFilter$Receiver" "isPlain" "Z", Cond.fieldLink RX3 72 "FaxFilter$Settings" "aligned" "Z", Cond.methodLink RX3 44 yX5_hasMarks, Cond.instanceMethod yX5_hasMarks, Cond.selects RX5 yX5_hasMarks yX5_hasMarks, Cond.initialized RX5, Cond.code yX5_hasMarks cX5_hasMarks 1 (some .boolean), Cond.fieldLink RX5 9 "FaxFilter$Settings" "kind" "I", Cond.fieldLink RX5 15 "FaxFilter$Settings" "marks" "Z", Cond.methodLink RX3 50 yX0_passMark, Cond.instanceMethod yX0_passMark, Cond.selects RX0 yX0_passMark yX0_passMark, Cond.initialized RX0, Cond.code yX0_passMark cX0_passMark 5 (some .boolean), Cond.fieldLink RX0 15 "FaxFilter$BitsIn" "size" "I", Cond.fieldLink RX0 19 "FaxFilter$BitsIn" "passed" "I", Cond.methodLink RX0 40 yX0_bitAt, Cond.instanceMethod yX0_bitAt, Cond.selects RX0 yX0_bitAt yX0_bitAt, Cond.code yX0_bitAt cX0_bitAt 2 (some .int), Cond.methodLink RX0 36 yX0_byteAt]
def wsX3_reachRow_r2 : List Cond := [Cond.instanceMethod yX0_byteAt, Cond.selects RX0 yX0_byteAt yX0_byteAt, Cond.code yX0_byteAt cX0_byteAt 2 (some .int), Cond.fieldLink RX0 9 "FaxFilter$BitsIn" "bytes" "[B", Cond.methodLink RX3 60 yX0_left, Cond.instanceMethod yX0_left, Cond.selects RX0 yX0_left yX0_left, Cond.code yX0_left cX0_left 1 (some .int), Cond.methodLink RX3 64 yX0_peek, Cond.instanceMethod yX0_peek, Cond.selects RX0 yX0_peek yX0_peek, Cond.code yX0_peek cX0_peek 4 (some .int), Cond.methodLink RX3 68 yX0_pass, Cond.instanceMethod yX0_pass, Cond.selects RX0 yX0_pass yX0_pass, Cond.code yX0_pass cX0_pass 2 none, Cond.methodLink RX0 26 Lib.Math.min.name, Cond.static Lib.Math.min.name, Cond.initialized "java/lang/Math", Cond.code Lib.Math.min.name Lib.Math.min.code 2 (some .int), Cond.methodLink RX0 22 yX0_left, Cond.methodLink RX3 75 yX0_passToByte, Cond.instanceMethod yX0_passToByte, Cond.selects RX0 yX0_passToByte yX0_passToByte]
def wsX3_reachRow_r3 : List Cond := [Cond.code yX0_passToByte cX0_passToByte 1 none, Cond.methodLink RX0 32 yX0_pass, Cond.methodLink RX3 78 yX0_isMarkNext, Cond.instanceMethod yX0_isMarkNext, Cond.selects RX0 yX0_isMarkNext yX0_isMarkNext, Cond.code yX0_isMarkNext cX0_isMarkNext 2 (some .boolean), Cond.methodLink RX0 43 yX0_zeros, Cond.instanceMethod yX0_zeros, Cond.selects RX0 yX0_zeros yX0_zeros, Cond.code yX0_zeros cX0_zeros 3 (some .int)]
def wsX3_reachRow : List Cond := .code yX3_reachRow cX3_reachRow 3 (some .boolean) :: ((wsX3_reachRow_r1 ++ (wsX3_reachRow_r2 ++ wsX3_reachRow_r3)) ++ wsX30 ++ wsX50 ++ wsX00 ++ (vx_atM "java/lang/ArrayIndexOutOfBoundsException" ["java/lang/IndexOutOfBoundsException", "java/lang/RuntimeException", "java/lang/Exception"]).filter goodWord)
def wsX6_slotBeginning : List Cond := .code yX6_slotBeginning cX6_slotBeginning 3 (some .int) :: ([.fieldLink RX6 21 "FaxFilter$Table" "floors" "[I", .fieldLink RX6 18 "FaxFilter$Table" "ordered" "[I"] ++ wsX60 ++ (vx_atM "java/lang/ArrayIndexOutOfBoundsException" ["java/lang/IndexOutOfBoundsException", "java/lang/RuntimeException", "java/lang/Exception"]).filter goodWord)
def wsX6_bitsOf : List Cond := .code yX6_bitsOf cX6_bitsOf 2 (some .int) :: ([.fieldLink RX6 11 "FaxFilter$Table" "bits" "[I"] ++ wsX60 ++ (vx_atM "java/lang/ArrayIndexOutOfBoundsException" ["java/lang/IndexOutOfBoundsException", "java/lang/RuntimeException", "java/lang/Exception"]).filter goodWord)
def wsX6_runOf : List Cond := .code yX6_runOf cX6_runOf 1 (some .int) :: ([])
def wsX3_readRun_r1 : List Cond := [Cond.fieldLink RX3 23 "FaxFilter$Receiver" "darkTable" "LFaxFilter$Table;", Cond.fieldLink RX3 19 "FaxFilter$Receiver" "whiteTable" "LFaxFilter$Table;", Cond.fieldLink RX3 26 "FaxFilter$Receiver" "in" "LFaxFilter$BitsIn;", Cond.methodLink RX3 64 yX0_peek, Cond.instanceMethod yX0_peek, Cond.selects RX0 yX0_peek yX0_peek, Cond.initialized RX0, Cond.code yX0_peek cX0_peek 4 (some .int), Cond.fieldLink RX0 19 "FaxFilter$BitsIn" "passed" "I", Cond.methodLink RX0 36 yX0_byteAt, Cond.instanceMethod yX0_byteAt, Cond.selects RX0 yX0_byteAt yX0_byteAt, Cond.code yX0_byteAt cX0_byteAt 2 (some .int), Cond.fieldLink RX0 15 "FaxFilter$BitsIn" "size" "I", Cond.fieldLink RX0 9 "FaxFilter$BitsIn" "bytes" "[B", Cond.methodLink RX3 153 yX6_slotBeginning, Cond.instanceMethod yX6_slotBeginning, Cond.selects RX6 yX6_slotBeginning yX6_slotBeginning, Cond.initialized RX6, Cond.code yX6_slotBeginning cX6_slotBeginning 3 (some .int), Cond.fieldLink RX6 21 "FaxFilter$Table" "floors" "[I", Cond.fieldLink RX6 18 "FaxFilter$Table" "ordered" "[I", Cond.methodLink RX3 158 yX6_bitsOf, Cond.instanceMethod yX6_bitsOf]
def wsX3_readRun_r2 : List Cond := [Cond.selects RX6 yX6_bitsOf yX6_bitsOf, Cond.code yX6_bitsOf cX6_bitsOf 2 (some .int), Cond.fieldLink RX6 11 "FaxFilter$Table" "bits" "[I", Cond.methodLink RX3 60 yX0_left, Cond.instanceMethod yX0_left, Cond.selects RX0 yX0_left yX0_left, Cond.code yX0_left cX0_left 1 (some .int), Cond.methodLink RX3 68 yX0_pass, Cond.instanceMethod yX0_pass, Cond.selects RX0 yX0_pass yX0_pass, Cond.code yX0_pass cX0_pass 2 none, Cond.methodLink RX0 26 Lib.Math.min.name, Cond.static Lib.Math.min.name, Cond.initialized "java/lang/Math", Cond.code Lib.Math.min.name Lib.Math.min.code 2 (some .int), Cond.methodLink RX0 22 yX0_left, Cond.methodLink RX3 161 yX6_runOf, Cond.static yX6_runOf, Cond.code yX6_runOf cX6_runOf 1 (some .int)]
def wsX3_readRun : List Cond := .code yX3_readRun cX3_readRun 8 (some .int) :: ((wsX3_readRun_r1 ++ wsX3_readRun_r2) ++ wsX30 ++ wsX00 ++ wsX60 ++ (vx_atM "java/lang/ArrayIndexOutOfBoundsException" ["java/lang/IndexOutOfBoundsException", "java/lang/RuntimeException", "java/lang/Exception"]).filter goodWord)
def wsX3_plainStateWithout_r1 : List Cond := [Cond.fieldLink RX3 9 "FaxFilter$Receiver" "settings" "LFaxFilter$Settings;", Cond.fieldLink RX3 26 "FaxFilter$Receiver" "in" "LFaxFilter$BitsIn;", Cond.methodLink RX3 44 yX5_hasMarks, Cond.instanceMethod yX5_hasMarks, Cond.selects RX5 yX5_hasMarks yX5_hasMarks, Cond.initialized RX5, Cond.code yX5_hasMarks cX5_hasMarks 1 (some .boolean), Cond.fieldLink RX5 9 "FaxFilter$Settings" "kind" "I", Cond.fieldLink RX5 15 "FaxFilter$Settings" "marks" "Z", Cond.methodLink RX3 78 yX0_isMarkNext, Cond.instanceMethod yX0_isMarkNext, Cond.selects RX0 yX0_isMarkNext yX0_isMarkNext, Cond.initialized RX0, Cond.code yX0_isMarkNext cX0_isMarkNext 2 (some .boolean), Cond.methodLink RX0 43 yX0_zeros, Cond.instanceMethod yX0_zeros, Cond.selects RX0 yX0_zeros yX0_zeros, Cond.code yX0_zeros cX0_zeros 3 (some .int), Cond.fieldLink RX0 19 "FaxFilter$BitsIn" "passed" "I", Cond.methodLink RX0 22 yX0_left, Cond.instanceMethod yX0_left, Cond.selects RX0 yX0_left yX0_left, Cond.code yX0_left cX0_left 1 (some .int), Cond.fieldLink RX0 15 "FaxFilter$BitsIn" "size" "I"]
def wsX3_plainStateWithout_r2 : List Cond := [Cond.methodLink RX0 40 yX0_bitAt, Cond.instanceMethod yX0_bitAt, Cond.selects RX0 yX0_bitAt yX0_bitAt, Cond.code yX0_bitAt cX0_bitAt 2 (some .int), Cond.methodLink RX0 36 yX0_byteAt, Cond.instanceMethod yX0_byteAt, Cond.selects RX0 yX0_byteAt yX0_byteAt, Cond.code yX0_byteAt cX0_byteAt 2 (some .int), Cond.fieldLink RX0 9 "FaxFilter$BitsIn" "bytes" "[B", Cond.methodLink RX3 119 yX0_zeros, Cond.methodLink RX3 60 yX0_left]
def wsX3_plainStateWithout : List Cond := .code yX3_plainStateWithout cX3_plainStateWithout 2 (some .int) :: ((wsX3_plainStateWithout_r1 ++ wsX3_plainStateWithout_r2) ++ wsX30 ++ wsX50 ++ wsX00 ++ (vx_atM "java/lang/ArrayIndexOutOfBoundsException" ["java/lang/IndexOutOfBoundsException", "java/lang/RuntimeException", "java/lang/Exception"]).filter goodWord)
def wsX3_layTo_r1 : List Cond := [Cond.fieldLink RX3 15 "FaxFilter$Receiver" "picture" "LFaxFilter$Picture;", Cond.fieldLink RX3 105 "FaxFilter$Picture" "columns" "I", Cond.fieldLink RX3 87 "FaxFilter$Receiver" "isCut" "Z", Cond.methodLink RX3 136 Lib.Math.min.name, Cond.static Lib.Math.min.name, Cond.initialized "java/lang/Math", Cond.code Lib.Math.min.name Lib.Math.min.code 2 (some .int), Cond.fieldLink RX3 84 "FaxFilter$Receiver" "reached" "I", Cond.methodLink RX3 142 yX2_paint, Cond.instanceMethod yX2_paint, Cond.selects RX2 yX2_paint yX2_paint, Cond.initialized RX2, Cond.code yX2_paint cX2_paint 13 none, Cond.fieldLink RX2 15 "FaxFilter$Picture" "columns" "I", Cond.constantLong RX2 41 (-1), Cond.methodLink RX2 43 Lib.Math.max.name, Cond.static Lib.Math.max.name, Cond.code Lib.Math.max.name Lib.Math.max.code 2 (some .int), Cond.methodLink RX2 48 Lib.Math.min.name, Cond.fieldLink RX2 22 "FaxFilter$Picture" "words" "[J", Cond.methodLink RX2 33 yX2_indexOf, Cond.instanceMethod yX2_indexOf, Cond.selects RX2 yX2_indexOf yX2_indexOf, Cond.code yX2_indexOf cX2_indexOf 4 (some .int)]
def wsX3_layTo_r2 : List Cond := [Cond.fieldLink RX2 19 "FaxFilter$Picture" "wide" "I"]
def wsX3_layTo : List Cond := .code yX3_layTo cX3_layTo 5 none :: ((wsX3_layTo_r1 ++ wsX3_layTo_r2) ++ wsX30 ++ wsX20 ++ (vx_atM "java/lang/ArrayIndexOutOfBoundsException" ["java/lang/IndexOutOfBoundsException", "java/lang/RuntimeException", "java/lang/Exception"]).filter goodWord)
def wsX3_readPlain_r1 : List Cond := [Cond.fieldLink RX3 84 "FaxFilter$Receiver" "reached" "I", Cond.fieldLink RX3 15 "FaxFilter$Receiver" "picture" "LFaxFilter$Picture;", Cond.fieldLink RX3 105 "FaxFilter$Picture" "columns" "I", Cond.fieldLink RX3 87 "FaxFilter$Receiver" "isCut" "Z", Cond.methodLink RX3 108 yX3_readRun, Cond.instanceMethod yX3_readRun, Cond.selects RX3 yX3_readRun yX3_readRun, Cond.initialized RX3, Cond.code yX3_readRun cX3_readRun 8 (some .int), Cond.fieldLink RX3 23 "FaxFilter$Receiver" "darkTable" "LFaxFilter$Table;", Cond.fieldLink RX3 19 "FaxFilter$Receiver" "whiteTable" "LFaxFilter$Table;", Cond.fieldLink RX3 26 "FaxFilter$Receiver" "in" "LFaxFilter$BitsIn;", Cond.methodLink RX3 64 yX0_peek, Cond.instanceMethod yX0_peek, Cond.selects RX0 yX0_peek yX0_peek, Cond.initialized RX0, Cond.code yX0_peek cX0_peek 4 (some .int), Cond.fieldLink RX0 19 "FaxFilter$BitsIn" "passed" "I", Cond.methodLink RX0 36 yX0_byteAt, Cond.instanceMethod yX0_byteAt, Cond.selects RX0 yX0_byteAt yX0_byteAt, Cond.code yX0_byteAt cX0_byteAt 2 (some .int), Cond.fieldLink RX0 15 "FaxFilter$BitsIn" "size" "I", Cond.fieldLink RX0 9 "FaxFilter$BitsIn" "bytes" "[B"]
def wsX3_readPlain_r2 : List Cond := [Cond.methodLink RX3 153 yX6_slotBeginning, Cond.instanceMethod yX6_slotBeginning, Cond.selects RX6 yX6_slotBeginning yX6_slotBeginning, Cond.initialized RX6, Cond.code yX6_slotBeginning cX6_slotBeginning 3 (some .int), Cond.fieldLink RX6 21 "FaxFilter$Table" "floors" "[I", Cond.fieldLink RX6 18 "FaxFilter$Table" "ordered" "[I", Cond.methodLink RX3 158 yX6_bitsOf, Cond.instanceMethod yX6_bitsOf, Cond.selects RX6 yX6_bitsOf yX6_bitsOf, Cond.code yX6_bitsOf cX6_bitsOf 2 (some .int), Cond.fieldLink RX6 11 "FaxFilter$Table" "bits" "[I", Cond.methodLink RX3 60 yX0_left, Cond.instanceMethod yX0_left, Cond.selects RX0 yX0_left yX0_left, Cond.code yX0_left cX0_left 1 (some .int), Cond.methodLink RX3 68 yX0_pass, Cond.instanceMethod yX0_pass, Cond.selects RX0 yX0_pass yX0_pass, Cond.code yX0_pass cX0_pass 2 none, Cond.methodLink RX0 26 Lib.Math.min.name, Cond.static Lib.Math.min.name, Cond.initialized "java/lang/Math", Cond.code Lib.Math.min.name Lib.Math.min.code 2 (some .int)]
def wsX3_readPlain_r3 : List Cond := [Cond.methodLink RX0 22 yX0_left, Cond.methodLink RX3 161 yX6_runOf, Cond.static yX6_runOf, Cond.code yX6_runOf cX6_runOf 1 (some .int), Cond.methodLink RX3 112 yX3_plainStateWithout, Cond.instanceMethod yX3_plainStateWithout, Cond.selects RX3 yX3_plainStateWithout yX3_plainStateWithout, Cond.code yX3_plainStateWithout cX3_plainStateWithout 2 (some .int), Cond.fieldLink RX3 9 "FaxFilter$Receiver" "settings" "LFaxFilter$Settings;", Cond.methodLink RX3 44 yX5_hasMarks, Cond.instanceMethod yX5_hasMarks, Cond.selects RX5 yX5_hasMarks yX5_hasMarks, Cond.initialized RX5, Cond.code yX5_hasMarks cX5_hasMarks 1 (some .boolean), Cond.fieldLink RX5 9 "FaxFilter$Settings" "kind" "I", Cond.fieldLink RX5 15 "FaxFilter$Settings" "marks" "Z", Cond.methodLink RX3 78 yX0_isMarkNext, Cond.instanceMethod yX0_isMarkNext, Cond.selects RX0 yX0_isMarkNext yX0_isMarkNext, Cond.code yX0_isMarkNext cX0_isMarkNext 2 (some .boolean), Cond.methodLink RX0 43 yX0_zeros, Cond.instanceMethod yX0_zeros, Cond.selects RX0 yX0_zeros yX0_zeros, Cond.code yX0_zeros cX0_zeros 3 (some .int)]
def wsX3_readPlain_r4 : List Cond := [Cond.methodLink RX0 40 yX0_bitAt, Cond.instanceMethod yX0_bitAt, Cond.selects RX0 yX0_bitAt yX0_bitAt, Cond.code yX0_bitAt cX0_bitAt 2 (some .int), Cond.methodLink RX3 119 yX0_zeros, Cond.methodLink RX3 115 yX3_layTo, Cond.instanceMethod yX3_layTo, Cond.selects RX3 yX3_layTo yX3_layTo, Cond.code yX3_layTo cX3_layTo 5 none, Cond.methodLink RX3 136 Lib.Math.min.name, Cond.methodLink RX3 142 yX2_paint, Cond.instanceMethod yX2_paint, Cond.selects RX2 yX2_paint yX2_paint, Cond.initialized RX2, Cond.code yX2_paint cX2_paint 13 none, Cond.fieldLink RX2 15 "FaxFilter$Picture" "columns" "I", Cond.constantLong RX2 41 (-1), Cond.methodLink RX2 43 Lib.Math.max.name, Cond.static Lib.Math.max.name, Cond.code Lib.Math.max.name Lib.Math.max.code 2 (some .int), Cond.methodLink RX2 48 Lib.Math.min.name, Cond.fieldLink RX2 22 "FaxFilter$Picture" "words" "[J", Cond.methodLink RX2 33 yX2_indexOf, Cond.instanceMethod yX2_indexOf]
def wsX3_readPlain_r5 : List Cond := [Cond.selects RX2 yX2_indexOf yX2_indexOf, Cond.code yX2_indexOf cX2_indexOf 4 (some .int), Cond.fieldLink RX2 19 "FaxFilter$Picture" "wide" "I"]
def wsX3_readPlain : List Cond := .code yX3_readPlain cX3_readPlain 5 (some .int) :: ((wsX3_readPlain_r1 ++ (wsX3_readPlain_r2 ++ (wsX3_readPlain_r3 ++ (wsX3_readPlain_r4 ++ wsX3_readPlain_r5)))) ++ wsX30 ++ wsX20 ++ wsX00 ++ wsX60 ++ wsX50 ++ (vx_atM "java/lang/ArrayIndexOutOfBoundsException" ["java/lang/IndexOutOfBoundsException", "java/lang/RuntimeException", "java/lang/Exception"]).filter goodWord)
def wsX3_readWay_r1 : List Cond := [Cond.fieldLink RX3 26 "FaxFilter$Receiver" "in" "LFaxFilter$BitsIn;", Cond.methodLink RX3 60 yX0_left, Cond.instanceMethod yX0_left, Cond.selects RX0 yX0_left yX0_left, Cond.initialized RX0, Cond.code yX0_left cX0_left 1 (some .int), Cond.fieldLink RX0 15 "FaxFilter$BitsIn" "size" "I", Cond.fieldLink RX0 19 "FaxFilter$BitsIn" "passed" "I", Cond.methodLink RX3 64 yX0_peek, Cond.instanceMethod yX0_peek, Cond.selects RX0 yX0_peek yX0_peek, Cond.code yX0_peek cX0_peek 4 (some .int), Cond.methodLink RX0 36 yX0_byteAt, Cond.instanceMethod yX0_byteAt, Cond.selects RX0 yX0_byteAt yX0_byteAt, Cond.code yX0_byteAt cX0_byteAt 2 (some .int), Cond.fieldLink RX0 9 "FaxFilter$BitsIn" "bytes" "[B", Cond.methodLink RX3 68 yX0_pass, Cond.instanceMethod yX0_pass, Cond.selects RX0 yX0_pass yX0_pass, Cond.code yX0_pass cX0_pass 2 none, Cond.methodLink RX0 26 Lib.Math.min.name, Cond.static Lib.Math.min.name, Cond.initialized "java/lang/Math"]
def wsX3_readWay_r2 : List Cond := [Cond.code Lib.Math.min.name Lib.Math.min.code 2 (some .int), Cond.methodLink RX0 22 yX0_left]
def wsX3_readWay : List Cond := .code yX3_readWay cX3_readWay 3 (some .int) :: ((wsX3_readWay_r1 ++ wsX3_readWay_r2) ++ wsX30 ++ wsX00 ++ (vx_atM "java/lang/ArrayIndexOutOfBoundsException" ["java/lang/IndexOutOfBoundsException", "java/lang/RuntimeException", "java/lang/Exception"]).filter goodWord)
def wsX3_layAcross_r1 : List Cond := [Cond.fieldLink RX3 84 "FaxFilter$Receiver" "reached" "I", Cond.methodLink RX3 108 yX3_readRun, Cond.instanceMethod yX3_readRun, Cond.selects RX3 yX3_readRun yX3_readRun, Cond.initialized RX3, Cond.code yX3_readRun cX3_readRun 8 (some .int), Cond.fieldLink RX3 23 "FaxFilter$Receiver" "darkTable" "LFaxFilter$Table;", Cond.fieldLink RX3 19 "FaxFilter$Receiver" "whiteTable" "LFaxFilter$Table;", Cond.fieldLink RX3 26 "FaxFilter$Receiver" "in" "LFaxFilter$BitsIn;", Cond.methodLink RX3 64 yX0_peek, Cond.instanceMethod yX0_peek, Cond.selects RX0 yX0_peek yX0_peek, Cond.initialized RX0, Cond.code yX0_peek cX0_peek 4 (some .int), Cond.fieldLink RX0 19 "FaxFilter$BitsIn" "passed" "I", Cond.methodLink RX0 36 yX0_byteAt, Cond.instanceMethod yX0_byteAt, Cond.selects RX0 yX0_byteAt yX0_byteAt, Cond.code yX0_byteAt cX0_byteAt 2 (some .int), Cond.fieldLink RX0 15 "FaxFilter$BitsIn" "size" "I", Cond.fieldLink RX0 9 "FaxFilter$BitsIn" "bytes" "[B", Cond.methodLink RX3 153 yX6_slotBeginning, Cond.instanceMethod yX6_slotBeginning, Cond.selects RX6 yX6_slotBeginning yX6_slotBeginning]
def wsX3_layAcross_r2 : List Cond := [Cond.initialized RX6, Cond.code yX6_slotBeginning cX6_slotBeginning 3 (some .int), Cond.fieldLink RX6 21 "FaxFilter$Table" "floors" "[I", Cond.fieldLink RX6 18 "FaxFilter$Table" "ordered" "[I", Cond.methodLink RX3 158 yX6_bitsOf, Cond.instanceMethod yX6_bitsOf, Cond.selects RX6 yX6_bitsOf yX6_bitsOf, Cond.code yX6_bitsOf cX6_bitsOf 2 (some .int), Cond.fieldLink RX6 11 "FaxFilter$Table" "bits" "[I", Cond.methodLink RX3 60 yX0_left, Cond.instanceMethod yX0_left, Cond.selects RX0 yX0_left yX0_left, Cond.code yX0_left cX0_left 1 (some .int), Cond.methodLink RX3 68 yX0_pass, Cond.instanceMethod yX0_pass, Cond.selects RX0 yX0_pass yX0_pass, Cond.code yX0_pass cX0_pass 2 none, Cond.methodLink RX0 26 Lib.Math.min.name, Cond.static Lib.Math.min.name, Cond.initialized "java/lang/Math", Cond.code Lib.Math.min.name Lib.Math.min.code 2 (some .int), Cond.methodLink RX0 22 yX0_left, Cond.methodLink RX3 161 yX6_runOf, Cond.static yX6_runOf]
def wsX3_layAcross_r3 : List Cond := [Cond.code yX6_runOf cX6_runOf 1 (some .int), Cond.methodLink RX3 115 yX3_layTo, Cond.instanceMethod yX3_layTo, Cond.selects RX3 yX3_layTo yX3_layTo, Cond.code yX3_layTo cX3_layTo 5 none, Cond.fieldLink RX3 15 "FaxFilter$Receiver" "picture" "LFaxFilter$Picture;", Cond.fieldLink RX3 105 "FaxFilter$Picture" "columns" "I", Cond.fieldLink RX3 87 "FaxFilter$Receiver" "isCut" "Z", Cond.methodLink RX3 136 Lib.Math.min.name, Cond.methodLink RX3 142 yX2_paint, Cond.instanceMethod yX2_paint, Cond.selects RX2 yX2_paint yX2_paint, Cond.initialized RX2, Cond.code yX2_paint cX2_paint 13 none, Cond.fieldLink RX2 15 "FaxFilter$Picture" "columns" "I", Cond.constantLong RX2 41 (-1), Cond.methodLink RX2 43 Lib.Math.max.name, Cond.static Lib.Math.max.name, Cond.code Lib.Math.max.name Lib.Math.max.code 2 (some .int), Cond.methodLink RX2 48 Lib.Math.min.name, Cond.fieldLink RX2 22 "FaxFilter$Picture" "words" "[J", Cond.methodLink RX2 33 yX2_indexOf, Cond.instanceMethod yX2_indexOf, Cond.selects RX2 yX2_indexOf yX2_indexOf]
def wsX3_layAcross_r4 : List Cond := [Cond.code yX2_indexOf cX2_indexOf 4 (some .int), Cond.fieldLink RX2 19 "FaxFilter$Picture" "wide" "I"]
def wsX3_layAcross : List Cond := .code yX3_layAcross cX3_layAcross 5 (some .int) :: ((wsX3_layAcross_r1 ++ (wsX3_layAcross_r2 ++ (wsX3_layAcross_r3 ++ wsX3_layAcross_r4))) ++ wsX30 ++ wsX00 ++ wsX60 ++ wsX20 ++ (vx_atM "java/lang/ArrayIndexOutOfBoundsException" ["java/lang/IndexOutOfBoundsException", "java/lang/RuntimeException", "java/lang/Exception"]).filter goodWord)
def wsX3_readDrawn_r1 : List Cond := [Cond.fieldLink RX3 84 "FaxFilter$Receiver" "reached" "I", Cond.fieldLink RX3 15 "FaxFilter$Receiver" "picture" "LFaxFilter$Picture;", Cond.fieldLink RX3 105 "FaxFilter$Picture" "columns" "I", Cond.fieldLink RX3 87 "FaxFilter$Receiver" "isCut" "Z", Cond.methodLink RX3 122 yX3_readWay, Cond.instanceMethod yX3_readWay, Cond.selects RX3 yX3_readWay yX3_readWay, Cond.initialized RX3, Cond.code yX3_readWay cX3_readWay 3 (some .int), Cond.fieldLink RX3 26 "FaxFilter$Receiver" "in" "LFaxFilter$BitsIn;", Cond.methodLink RX3 60 yX0_left, Cond.instanceMethod yX0_left, Cond.selects RX0 yX0_left yX0_left, Cond.initialized RX0, Cond.code yX0_left cX0_left 1 (some .int), Cond.fieldLink RX0 15 "FaxFilter$BitsIn" "size" "I", Cond.fieldLink RX0 19 "FaxFilter$BitsIn" "passed" "I", Cond.methodLink RX3 64 yX0_peek, Cond.instanceMethod yX0_peek, Cond.selects RX0 yX0_peek yX0_peek, Cond.code yX0_peek cX0_peek 4 (some .int), Cond.methodLink RX0 36 yX0_byteAt, Cond.instanceMethod yX0_byteAt, Cond.selects RX0 yX0_byteAt yX0_byteAt]
def wsX3_readDrawn_r2 : List Cond := [Cond.code yX0_byteAt cX0_byteAt 2 (some .int), Cond.fieldLink RX0 9 "FaxFilter$BitsIn" "bytes" "[B", Cond.methodLink RX3 68 yX0_pass, Cond.instanceMethod yX0_pass, Cond.selects RX0 yX0_pass yX0_pass, Cond.code yX0_pass cX0_pass 2 none, Cond.methodLink RX0 26 Lib.Math.min.name, Cond.static Lib.Math.min.name, Cond.initialized "java/lang/Math", Cond.code Lib.Math.min.name Lib.Math.min.code 2 (some .int), Cond.methodLink RX0 22 yX0_left, Cond.methodLink RX3 125 yX3_layAcross, Cond.instanceMethod yX3_layAcross, Cond.selects RX3 yX3_layAcross yX3_layAcross, Cond.code yX3_layAcross cX3_layAcross 5 (some .int), Cond.methodLink RX3 108 yX3_readRun, Cond.instanceMethod yX3_readRun, Cond.selects RX3 yX3_readRun yX3_readRun, Cond.code yX3_readRun cX3_readRun 8 (some .int), Cond.fieldLink RX3 23 "FaxFilter$Receiver" "darkTable" "LFaxFilter$Table;", Cond.fieldLink RX3 19 "FaxFilter$Receiver" "whiteTable" "LFaxFilter$Table;", Cond.methodLink RX3 153 yX6_slotBeginning, Cond.instanceMethod yX6_slotBeginning, Cond.selects RX6 yX6_slotBeginning yX6_slotBeginning]
def wsX3_readDrawn_r3 : List Cond := [Cond.initialized RX6, Cond.code yX6_slotBeginning cX6_slotBeginning 3 (some .int), Cond.fieldLink RX6 21 "FaxFilter$Table" "floors" "[I", Cond.fieldLink RX6 18 "FaxFilter$Table" "ordered" "[I", Cond.methodLink RX3 158 yX6_bitsOf, Cond.instanceMethod yX6_bitsOf, Cond.selects RX6 yX6_bitsOf yX6_bitsOf, Cond.code yX6_bitsOf cX6_bitsOf 2 (some .int), Cond.fieldLink RX6 11 "FaxFilter$Table" "bits" "[I", Cond.methodLink RX3 161 yX6_runOf, Cond.static yX6_runOf, Cond.code yX6_runOf cX6_runOf 1 (some .int), Cond.methodLink RX3 115 yX3_layTo, Cond.instanceMethod yX3_layTo, Cond.selects RX3 yX3_layTo yX3_layTo, Cond.code yX3_layTo cX3_layTo 5 none, Cond.methodLink RX3 136 Lib.Math.min.name, Cond.methodLink RX3 142 yX2_paint, Cond.instanceMethod yX2_paint, Cond.selects RX2 yX2_paint yX2_paint, Cond.initialized RX2, Cond.code yX2_paint cX2_paint 13 none, Cond.fieldLink RX2 15 "FaxFilter$Picture" "columns" "I", Cond.constantLong RX2 41 (-1)]
def wsX3_readDrawn_r4 : List Cond := [Cond.methodLink RX2 43 Lib.Math.max.name, Cond.static Lib.Math.max.name, Cond.code Lib.Math.max.name Lib.Math.max.code 2 (some .int), Cond.methodLink RX2 48 Lib.Math.min.name, Cond.fieldLink RX2 22 "FaxFilter$Picture" "words" "[J", Cond.methodLink RX2 33 yX2_indexOf, Cond.instanceMethod yX2_indexOf, Cond.selects RX2 yX2_indexOf yX2_indexOf, Cond.code yX2_indexOf cX2_indexOf 4 (some .int), Cond.fieldLink RX2 19 "FaxFilter$Picture" "wide" "I", Cond.methodLink RX3 129 yX2_changeTo, Cond.instanceMethod yX2_changeTo, Cond.selects RX2 yX2_changeTo yX2_changeTo, Cond.code yX2_changeTo cX2_changeTo 5 (some .int), Cond.methodLink RX2 57 yX2_isDark, Cond.instanceMethod yX2_isDark, Cond.selects RX2 yX2_isDark yX2_isDark, Cond.code yX2_isDark cX2_isDark 3 (some .boolean), Cond.methodLink RX2 37 yX2_wordOf, Cond.instanceMethod yX2_wordOf, Cond.selects RX2 yX2_wordOf yX2_wordOf, Cond.code yX2_wordOf cX2_wordOf 4 (some .long), Cond.methodLink RX2 61 yX2_nextOf, Cond.instanceMethod yX2_nextOf]
def wsX3_readDrawn_r5 : List Cond := [Cond.selects RX2 yX2_nextOf yX2_nextOf, Cond.code yX2_nextOf cX2_nextOf 10 (some .int), Cond.methodLink RX2 51 yJ13_bitCount_95d88, Cond.static yJ13_bitCount_95d88, Cond.initialized RJ13, Cond.code yJ13_bitCount_95d88 cJ13_bitCount_95d88 2 (some .int), Cond.constantLong RJ13 314 (6148914691236517205), Cond.constantLong RJ13 316 (3689348814741910323), Cond.constantLong RJ13 318 (1085102592571150095), Cond.methodLink RX3 133 yX2_nextOf]
def wsX3_readDrawn : List Cond := .code yX3_readDrawn cX3_readDrawn 8 (some .int) :: ((wsX3_readDrawn_r1 ++ (wsX3_readDrawn_r2 ++ (wsX3_readDrawn_r3 ++ (wsX3_readDrawn_r4 ++ wsX3_readDrawn_r5)))) ++ wsX30 ++ wsX20 ++ wsX00 ++ wsX60 ++ (vx_atM "java/lang/ArrayIndexOutOfBoundsException" ["java/lang/IndexOutOfBoundsException", "java/lang/RuntimeException", "java/lang/Exception"]).filter goodWord)
def wsX3_readRow_r1 : List Cond := [Cond.fieldLink RX3 15 "FaxFilter$Receiver" "picture" "LFaxFilter$Picture;", Cond.fieldLink RX3 35 "FaxFilter$Picture" "rows" "I", Cond.fieldLink RX3 84 "FaxFilter$Receiver" "reached" "I", Cond.fieldLink RX3 87 "FaxFilter$Receiver" "isCut" "Z", Cond.fieldLink RX3 56 "FaxFilter$Receiver" "isPlain" "Z", Cond.fieldLink RX3 41 "FaxFilter$Receiver" "damaged" "I", Cond.fieldLink RX3 9 "FaxFilter$Receiver" "settings" "LFaxFilter$Settings;", Cond.fieldLink RX3 96 "FaxFilter$Settings" "repeatDamaged" "Z", Cond.methodLink RX3 81 yX2_whiten, Cond.instanceMethod yX2_whiten, Cond.selects RX2 yX2_whiten yX2_whiten, Cond.initialized RX2, Cond.code yX2_whiten cX2_whiten 2 none, Cond.fieldLink RX2 15 "FaxFilter$Picture" "columns" "I", Cond.methodLink RX2 29 yX2_paint, Cond.instanceMethod yX2_paint, Cond.selects RX2 yX2_paint yX2_paint, Cond.code yX2_paint cX2_paint 13 none, Cond.constantLong RX2 41 (-1), Cond.methodLink RX2 43 Lib.Math.max.name, Cond.static Lib.Math.max.name, Cond.initialized "java/lang/Math", Cond.code Lib.Math.max.name Lib.Math.max.code 2 (some .int), Cond.methodLink RX2 48 Lib.Math.min.name]
def wsX3_readRow_r2 : List Cond := [Cond.static Lib.Math.min.name, Cond.code Lib.Math.min.name Lib.Math.min.code 2 (some .int), Cond.fieldLink RX2 22 "FaxFilter$Picture" "words" "[J", Cond.methodLink RX2 33 yX2_indexOf, Cond.instanceMethod yX2_indexOf, Cond.selects RX2 yX2_indexOf yX2_indexOf, Cond.code yX2_indexOf cX2_indexOf 4 (some .int), Cond.fieldLink RX2 19 "FaxFilter$Picture" "wide" "I", Cond.methodLink RX3 90 yX3_readPlain, Cond.instanceMethod yX3_readPlain, Cond.selects RX3 yX3_readPlain yX3_readPlain, Cond.initialized RX3, Cond.code yX3_readPlain cX3_readPlain 5 (some .int), Cond.fieldLink RX3 105 "FaxFilter$Picture" "columns" "I", Cond.methodLink RX3 108 yX3_readRun, Cond.instanceMethod yX3_readRun, Cond.selects RX3 yX3_readRun yX3_readRun, Cond.code yX3_readRun cX3_readRun 8 (some .int), Cond.fieldLink RX3 23 "FaxFilter$Receiver" "darkTable" "LFaxFilter$Table;", Cond.fieldLink RX3 19 "FaxFilter$Receiver" "whiteTable" "LFaxFilter$Table;", Cond.fieldLink RX3 26 "FaxFilter$Receiver" "in" "LFaxFilter$BitsIn;", Cond.methodLink RX3 64 yX0_peek, Cond.instanceMethod yX0_peek, Cond.selects RX0 yX0_peek yX0_peek]
def wsX3_readRow_r3 : List Cond := [Cond.initialized RX0, Cond.code yX0_peek cX0_peek 4 (some .int), Cond.fieldLink RX0 19 "FaxFilter$BitsIn" "passed" "I", Cond.methodLink RX0 36 yX0_byteAt, Cond.instanceMethod yX0_byteAt, Cond.selects RX0 yX0_byteAt yX0_byteAt, Cond.code yX0_byteAt cX0_byteAt 2 (some .int), Cond.fieldLink RX0 15 "FaxFilter$BitsIn" "size" "I", Cond.fieldLink RX0 9 "FaxFilter$BitsIn" "bytes" "[B", Cond.methodLink RX3 153 yX6_slotBeginning, Cond.instanceMethod yX6_slotBeginning, Cond.selects RX6 yX6_slotBeginning yX6_slotBeginning, Cond.initialized RX6, Cond.code yX6_slotBeginning cX6_slotBeginning 3 (some .int), Cond.fieldLink RX6 21 "FaxFilter$Table" "floors" "[I", Cond.fieldLink RX6 18 "FaxFilter$Table" "ordered" "[I", Cond.methodLink RX3 158 yX6_bitsOf, Cond.instanceMethod yX6_bitsOf, Cond.selects RX6 yX6_bitsOf yX6_bitsOf, Cond.code yX6_bitsOf cX6_bitsOf 2 (some .int), Cond.fieldLink RX6 11 "FaxFilter$Table" "bits" "[I", Cond.methodLink RX3 60 yX0_left, Cond.instanceMethod yX0_left, Cond.selects RX0 yX0_left yX0_left]
def wsX3_readRow_r4 : List Cond := [Cond.code yX0_left cX0_left 1 (some .int), Cond.methodLink RX3 68 yX0_pass, Cond.instanceMethod yX0_pass, Cond.selects RX0 yX0_pass yX0_pass, Cond.code yX0_pass cX0_pass 2 none, Cond.methodLink RX0 26 Lib.Math.min.name, Cond.methodLink RX0 22 yX0_left, Cond.methodLink RX3 161 yX6_runOf, Cond.static yX6_runOf, Cond.code yX6_runOf cX6_runOf 1 (some .int), Cond.methodLink RX3 112 yX3_plainStateWithout, Cond.instanceMethod yX3_plainStateWithout, Cond.selects RX3 yX3_plainStateWithout yX3_plainStateWithout, Cond.code yX3_plainStateWithout cX3_plainStateWithout 2 (some .int), Cond.methodLink RX3 44 yX5_hasMarks, Cond.instanceMethod yX5_hasMarks, Cond.selects RX5 yX5_hasMarks yX5_hasMarks, Cond.initialized RX5, Cond.code yX5_hasMarks cX5_hasMarks 1 (some .boolean), Cond.fieldLink RX5 9 "FaxFilter$Settings" "kind" "I", Cond.fieldLink RX5 15 "FaxFilter$Settings" "marks" "Z", Cond.methodLink RX3 78 yX0_isMarkNext, Cond.instanceMethod yX0_isMarkNext, Cond.selects RX0 yX0_isMarkNext yX0_isMarkNext]
def wsX3_readRow_r5 : List Cond := [Cond.code yX0_isMarkNext cX0_isMarkNext 2 (some .boolean), Cond.methodLink RX0 43 yX0_zeros, Cond.instanceMethod yX0_zeros, Cond.selects RX0 yX0_zeros yX0_zeros, Cond.code yX0_zeros cX0_zeros 3 (some .int), Cond.methodLink RX0 40 yX0_bitAt, Cond.instanceMethod yX0_bitAt, Cond.selects RX0 yX0_bitAt yX0_bitAt, Cond.code yX0_bitAt cX0_bitAt 2 (some .int), Cond.methodLink RX3 119 yX0_zeros, Cond.methodLink RX3 115 yX3_layTo, Cond.instanceMethod yX3_layTo, Cond.selects RX3 yX3_layTo yX3_layTo, Cond.code yX3_layTo cX3_layTo 5 none, Cond.methodLink RX3 136 Lib.Math.min.name, Cond.methodLink RX3 142 yX2_paint, Cond.methodLink RX3 93 yX3_readDrawn, Cond.instanceMethod yX3_readDrawn, Cond.selects RX3 yX3_readDrawn yX3_readDrawn, Cond.code yX3_readDrawn cX3_readDrawn 8 (some .int), Cond.methodLink RX3 122 yX3_readWay, Cond.instanceMethod yX3_readWay, Cond.selects RX3 yX3_readWay yX3_readWay, Cond.code yX3_readWay cX3_readWay 3 (some .int)]
def wsX3_readRow_r6 : List Cond := [Cond.methodLink RX3 125 yX3_layAcross, Cond.instanceMethod yX3_layAcross, Cond.selects RX3 yX3_layAcross yX3_layAcross, Cond.code yX3_layAcross cX3_layAcross 5 (some .int), Cond.methodLink RX3 129 yX2_changeTo, Cond.instanceMethod yX2_changeTo, Cond.selects RX2 yX2_changeTo yX2_changeTo, Cond.code yX2_changeTo cX2_changeTo 5 (some .int), Cond.methodLink RX2 57 yX2_isDark, Cond.instanceMethod yX2_isDark, Cond.selects RX2 yX2_isDark yX2_isDark, Cond.code yX2_isDark cX2_isDark 3 (some .boolean), Cond.methodLink RX2 37 yX2_wordOf, Cond.instanceMethod yX2_wordOf, Cond.selects RX2 yX2_wordOf yX2_wordOf, Cond.code yX2_wordOf cX2_wordOf 4 (some .long), Cond.methodLink RX2 61 yX2_nextOf, Cond.instanceMethod yX2_nextOf, Cond.selects RX2 yX2_nextOf yX2_nextOf, Cond.code yX2_nextOf cX2_nextOf 10 (some .int), Cond.methodLink RX2 51 yJ13_bitCount_95d88, Cond.static yJ13_bitCount_95d88, Cond.initialized RJ13, Cond.code yJ13_bitCount_95d88 cJ13_bitCount_95d88 2 (some .int)]
def wsX3_readRow_r7 : List Cond := [Cond.constantLong RJ13 314 (6148914691236517205), Cond.constantLong RJ13 316 (3689348814741910323), Cond.constantLong RJ13 318 (1085102592571150095), Cond.methodLink RX3 133 yX2_nextOf, Cond.methodLink RX3 99 yX2_copyAbove, Cond.instanceMethod yX2_copyAbove, Cond.selects RX2 yX2_copyAbove yX2_copyAbove, Cond.code yX2_copyAbove cX2_copyAbove 4 none, Cond.methodLink RX3 102 yX2_keep, Cond.instanceMethod yX2_keep, Cond.selects RX2 yX2_keep yX2_keep, Cond.code yX2_keep cX2_keep 2 none, Cond.fieldLink RX2 26 "FaxFilter$Picture" "rows" "I", Cond.fieldLink RX2 9 "FaxFilter$Picture" "states" "[I"]
def wsX3_readRow : List Cond := .code yX3_readRow cX3_readRow 3 (some .boolean) :: ((wsX3_readRow_r1 ++ (wsX3_readRow_r2 ++ (wsX3_readRow_r3 ++ (wsX3_readRow_r4 ++ (wsX3_readRow_r5 ++ (wsX3_readRow_r6 ++ wsX3_readRow_r7)))))) ++ wsX30 ++ wsX20 ++ wsX50 ++ wsX00 ++ wsX60 ++ (vx_atM "java/lang/ArrayIndexOutOfBoundsException" ["java/lang/IndexOutOfBoundsException", "java/lang/RuntimeException", "java/lang/Exception"]).filter goodWord)
def wsX4_init : List Cond := .code yX4_init cX4_init 6 none :: ([.methodLink RX4 3 objectInit, .instanceMethod objectInit, .code objectInit ⟨#[0xb1]⟩ 1 none, .fieldLink RX4 9 "FaxFilter$Sender" "settings" "LFaxFilter$Settings;", .fieldLink RX4 15 "FaxFilter$Sender" "picture" "LFaxFilter$Picture;", .fieldLink RX4 19 "FaxFilter$Sender" "whiteTable" "LFaxFilter$Table;", .fieldLink RX4 23 "FaxFilter$Sender" "darkTable" "LFaxFilter$Table;", .fieldLink RX4 26 "FaxFilter$Sender" "out" "LFaxFilter$BitsOut;"] ++ wsX40)
def wsX4_sendMark : List Cond := .code yX4_sendMark cX4_sendMark 2 none :: ([.fieldLink RX4 26 "FaxFilter$Sender" "out" "LFaxFilter$BitsOut;", .fieldLink RX4 9 "FaxFilter$Sender" "settings" "LFaxFilter$Settings;", .fieldLink RX4 41 "FaxFilter$Settings" "kind" "I", .methodLink RX4 74 yX1_send, .instanceMethod yX1_send, .selects RX1 yX1_send yX1_send, .initialized RX1, .code yX1_send cX1_send 7 none, .fieldLink RX1 15 "FaxFilter$BitsOut" "bits" "I", .fieldLink RX1 9 "FaxFilter$BitsOut" "bytes" "[B"] ++ wsX40 ++ wsX50 ++ wsX10 ++ (vx_atM "java/lang/ArrayIndexOutOfBoundsException" ["java/lang/IndexOutOfBoundsException", "java/lang/RuntimeException", "java/lang/Exception"]).filter goodWord)
def wsX4_sendStart_r1 : List Cond := [Cond.fieldLink RX4 9 "FaxFilter$Sender" "settings" "LFaxFilter$Settings;", Cond.fieldLink RX4 64 "FaxFilter$Settings" "aligned" "Z", Cond.fieldLink RX4 26 "FaxFilter$Sender" "out" "LFaxFilter$BitsOut;", Cond.methodLink RX4 60 yX5_hasMarks, Cond.instanceMethod yX5_hasMarks, Cond.selects RX5 yX5_hasMarks yX5_hasMarks, Cond.initialized RX5, Cond.code yX5_hasMarks cX5_hasMarks 1 (some .boolean), Cond.fieldLink RX5 9 "FaxFilter$Settings" "kind" "I", Cond.fieldLink RX5 15 "FaxFilter$Settings" "marks" "Z", Cond.methodLink RX4 68 yX1_alignFor, Cond.instanceMethod yX1_alignFor, Cond.selects RX1 yX1_alignFor yX1_alignFor, Cond.initialized RX1, Cond.code yX1_alignFor cX1_alignFor 2 none, Cond.fieldLink RX1 15 "FaxFilter$BitsOut" "bits" "I", Cond.methodLink RX1 19 yX1_send, Cond.instanceMethod yX1_send, Cond.selects RX1 yX1_send yX1_send, Cond.code yX1_send cX1_send 7 none, Cond.fieldLink RX1 9 "FaxFilter$BitsOut" "bytes" "[B", Cond.methodLink RX4 71 yX4_sendMark, Cond.instanceMethod yX4_sendMark, Cond.selects RX4 yX4_sendMark yX4_sendMark]
def wsX4_sendStart_r2 : List Cond := [Cond.initialized RX4, Cond.code yX4_sendMark cX4_sendMark 2 none, Cond.fieldLink RX4 41 "FaxFilter$Settings" "kind" "I", Cond.methodLink RX4 74 yX1_send]
def wsX4_sendStart : List Cond := .code yX4_sendStart cX4_sendStart 2 none :: ((wsX4_sendStart_r1 ++ wsX4_sendStart_r2) ++ wsX40 ++ wsX50 ++ wsX10 ++ (vx_atM "java/lang/ArrayIndexOutOfBoundsException" ["java/lang/IndexOutOfBoundsException", "java/lang/RuntimeException", "java/lang/Exception"]).filter goodWord)
def wsX6_slotOfMake : List Cond := .code yX6_slotOfMake cX6_slotOfMake 1 (some .int) :: ([])
def wsX6_codeOf : List Cond := .code yX6_codeOf cX6_codeOf 2 (some .int) :: ([.fieldLink RX6 15 "FaxFilter$Table" "codes" "[I"] ++ wsX60 ++ (vx_atM "java/lang/ArrayIndexOutOfBoundsException" ["java/lang/IndexOutOfBoundsException", "java/lang/RuntimeException", "java/lang/Exception"]).filter goodWord)
def wsX4_sendRun : List Cond := .code yX4_sendRun cX4_sendRun 5 none :: ([.fieldLink RX4 23 "FaxFilter$Sender" "darkTable" "LFaxFilter$Table;", .fieldLink RX4 19 "FaxFilter$Sender" "whiteTable" "LFaxFilter$Table;", .fieldLink RX4 26 "FaxFilter$Sender" "out" "LFaxFilter$BitsOut;", .methodLink RX4 102 yX6_slotOfMake, .static yX6_slotOfMake, .initialized RX6, .code yX6_slotOfMake cX6_slotOfMake 1 (some .int), .methodLink RX4 108 yX6_codeOf, .instanceMethod yX6_codeOf, .selects RX6 yX6_codeOf yX6_codeOf, .code yX6_codeOf cX6_codeOf 2 (some .int), .fieldLink RX6 15 "FaxFilter$Table" "codes" "[I", .methodLink RX4 111 yX6_bitsOf, .instanceMethod yX6_bitsOf, .selects RX6 yX6_bitsOf yX6_bitsOf, .code yX6_bitsOf cX6_bitsOf 2 (some .int), .fieldLink RX6 11 "FaxFilter$Table" "bits" "[I", .methodLink RX4 74 yX1_send, .instanceMethod yX1_send, .selects RX1 yX1_send yX1_send, .initialized RX1, .code yX1_send cX1_send 7 none, .fieldLink RX1 15 "FaxFilter$BitsOut" "bits" "I", .fieldLink RX1 9 "FaxFilter$BitsOut" "bytes" "[B"] ++ wsX40 ++ wsX60 ++ wsX10 ++ (vx_atM "java/lang/ArrayIndexOutOfBoundsException" ["java/lang/IndexOutOfBoundsException", "java/lang/RuntimeException", "java/lang/Exception"]).filter goodWord)
def wsX4_sendPlain_r1 : List Cond := [Cond.fieldLink RX4 15 "FaxFilter$Sender" "picture" "LFaxFilter$Picture;", Cond.fieldLink RX4 78 "FaxFilter$Picture" "columns" "I", Cond.methodLink RX4 81 yX2_nextOf, Cond.instanceMethod yX2_nextOf, Cond.selects RX2 yX2_nextOf yX2_nextOf, Cond.initialized RX2, Cond.code yX2_nextOf cX2_nextOf 10 (some .int), Cond.methodLink RX2 43 Lib.Math.max.name, Cond.static Lib.Math.max.name, Cond.initialized "java/lang/Math", Cond.code Lib.Math.max.name Lib.Math.max.code 2 (some .int), Cond.fieldLink RX2 15 "FaxFilter$Picture" "columns" "I", Cond.constantLong RX2 41 (-1), Cond.methodLink RX2 48 Lib.Math.min.name, Cond.static Lib.Math.min.name, Cond.code Lib.Math.min.name Lib.Math.min.code 2 (some .int), Cond.methodLink RX2 37 yX2_wordOf, Cond.instanceMethod yX2_wordOf, Cond.selects RX2 yX2_wordOf yX2_wordOf, Cond.code yX2_wordOf cX2_wordOf 4 (some .long), Cond.fieldLink RX2 22 "FaxFilter$Picture" "words" "[J", Cond.methodLink RX2 33 yX2_indexOf, Cond.instanceMethod yX2_indexOf, Cond.selects RX2 yX2_indexOf yX2_indexOf]
def wsX4_sendPlain_r2 : List Cond := [Cond.code yX2_indexOf cX2_indexOf 4 (some .int), Cond.fieldLink RX2 19 "FaxFilter$Picture" "wide" "I", Cond.methodLink RX2 51 yJ13_bitCount_95d88, Cond.static yJ13_bitCount_95d88, Cond.initialized RJ13, Cond.code yJ13_bitCount_95d88 cJ13_bitCount_95d88 2 (some .int), Cond.constantLong RJ13 314 (6148914691236517205), Cond.constantLong RJ13 316 (3689348814741910323), Cond.constantLong RJ13 318 (1085102592571150095), Cond.methodLink RX4 85 yX4_sendRun, Cond.instanceMethod yX4_sendRun, Cond.selects RX4 yX4_sendRun yX4_sendRun, Cond.initialized RX4, Cond.code yX4_sendRun cX4_sendRun 5 none, Cond.fieldLink RX4 23 "FaxFilter$Sender" "darkTable" "LFaxFilter$Table;", Cond.fieldLink RX4 19 "FaxFilter$Sender" "whiteTable" "LFaxFilter$Table;", Cond.fieldLink RX4 26 "FaxFilter$Sender" "out" "LFaxFilter$BitsOut;", Cond.methodLink RX4 102 yX6_slotOfMake, Cond.static yX6_slotOfMake, Cond.initialized RX6, Cond.code yX6_slotOfMake cX6_slotOfMake 1 (some .int), Cond.methodLink RX4 108 yX6_codeOf, Cond.instanceMethod yX6_codeOf, Cond.selects RX6 yX6_codeOf yX6_codeOf]
def wsX4_sendPlain_r3 : List Cond := [Cond.code yX6_codeOf cX6_codeOf 2 (some .int), Cond.fieldLink RX6 15 "FaxFilter$Table" "codes" "[I", Cond.methodLink RX4 111 yX6_bitsOf, Cond.instanceMethod yX6_bitsOf, Cond.selects RX6 yX6_bitsOf yX6_bitsOf, Cond.code yX6_bitsOf cX6_bitsOf 2 (some .int), Cond.fieldLink RX6 11 "FaxFilter$Table" "bits" "[I", Cond.methodLink RX4 74 yX1_send, Cond.instanceMethod yX1_send, Cond.selects RX1 yX1_send yX1_send, Cond.initialized RX1, Cond.code yX1_send cX1_send 7 none, Cond.fieldLink RX1 15 "FaxFilter$BitsOut" "bits" "I", Cond.fieldLink RX1 9 "FaxFilter$BitsOut" "bytes" "[B"]
def wsX4_sendPlain : List Cond := .code yX4_sendPlain cX4_sendPlain 6 none :: ((wsX4_sendPlain_r1 ++ (wsX4_sendPlain_r2 ++ wsX4_sendPlain_r3)) ++ wsX40 ++ wsX20 ++ wsX60 ++ wsX10 ++ (vx_atM "java/lang/ArrayIndexOutOfBoundsException" ["java/lang/IndexOutOfBoundsException", "java/lang/RuntimeException", "java/lang/Exception"]).filter goodWord)
def wsX4_sendWay : List Cond := .code yX4_sendWay cX4_sendWay 2 none :: ([.fieldLink RX4 26 "FaxFilter$Sender" "out" "LFaxFilter$BitsOut;", .methodLink RX4 74 yX1_send, .instanceMethod yX1_send, .selects RX1 yX1_send yX1_send, .initialized RX1, .code yX1_send cX1_send 7 none, .fieldLink RX1 15 "FaxFilter$BitsOut" "bits" "I", .fieldLink RX1 9 "FaxFilter$BitsOut" "bytes" "[B"] ++ wsX40 ++ wsX10 ++ (vx_atM "java/lang/ArrayIndexOutOfBoundsException" ["java/lang/IndexOutOfBoundsException", "java/lang/RuntimeException", "java/lang/Exception"]).filter goodWord)
def wsX4_sendDrawn_r1 : List Cond := [Cond.fieldLink RX4 15 "FaxFilter$Sender" "picture" "LFaxFilter$Picture;", Cond.fieldLink RX4 78 "FaxFilter$Picture" "columns" "I", Cond.methodLink RX4 89 yX2_changeTo, Cond.instanceMethod yX2_changeTo, Cond.selects RX2 yX2_changeTo yX2_changeTo, Cond.initialized RX2, Cond.code yX2_changeTo cX2_changeTo 5 (some .int), Cond.methodLink RX2 57 yX2_isDark, Cond.instanceMethod yX2_isDark, Cond.selects RX2 yX2_isDark yX2_isDark, Cond.code yX2_isDark cX2_isDark 3 (some .boolean), Cond.fieldLink RX2 15 "FaxFilter$Picture" "columns" "I", Cond.methodLink RX2 37 yX2_wordOf, Cond.instanceMethod yX2_wordOf, Cond.selects RX2 yX2_wordOf yX2_wordOf, Cond.code yX2_wordOf cX2_wordOf 4 (some .long), Cond.fieldLink RX2 22 "FaxFilter$Picture" "words" "[J", Cond.methodLink RX2 33 yX2_indexOf, Cond.instanceMethod yX2_indexOf, Cond.selects RX2 yX2_indexOf yX2_indexOf, Cond.code yX2_indexOf cX2_indexOf 4 (some .int), Cond.fieldLink RX2 19 "FaxFilter$Picture" "wide" "I", Cond.methodLink RX2 61 yX2_nextOf, Cond.instanceMethod yX2_nextOf]
def wsX4_sendDrawn_r2 : List Cond := [Cond.selects RX2 yX2_nextOf yX2_nextOf, Cond.code yX2_nextOf cX2_nextOf 10 (some .int), Cond.methodLink RX2 43 Lib.Math.max.name, Cond.static Lib.Math.max.name, Cond.initialized "java/lang/Math", Cond.code Lib.Math.max.name Lib.Math.max.code 2 (some .int), Cond.constantLong RX2 41 (-1), Cond.methodLink RX2 48 Lib.Math.min.name, Cond.static Lib.Math.min.name, Cond.code Lib.Math.min.name Lib.Math.min.code 2 (some .int), Cond.methodLink RX2 51 yJ13_bitCount_95d88, Cond.static yJ13_bitCount_95d88, Cond.initialized RJ13, Cond.code yJ13_bitCount_95d88 cJ13_bitCount_95d88 2 (some .int), Cond.constantLong RJ13 314 (6148914691236517205), Cond.constantLong RJ13 316 (3689348814741910323), Cond.constantLong RJ13 318 (1085102592571150095), Cond.methodLink RX4 81 yX2_nextOf, Cond.methodLink RX4 92 yX4_sendWay, Cond.instanceMethod yX4_sendWay, Cond.selects RX4 yX4_sendWay yX4_sendWay, Cond.initialized RX4, Cond.code yX4_sendWay cX4_sendWay 2 none, Cond.fieldLink RX4 26 "FaxFilter$Sender" "out" "LFaxFilter$BitsOut;"]
def wsX4_sendDrawn_r3 : List Cond := [Cond.methodLink RX4 74 yX1_send, Cond.instanceMethod yX1_send, Cond.selects RX1 yX1_send yX1_send, Cond.initialized RX1, Cond.code yX1_send cX1_send 7 none, Cond.fieldLink RX1 15 "FaxFilter$BitsOut" "bits" "I", Cond.fieldLink RX1 9 "FaxFilter$BitsOut" "bytes" "[B", Cond.methodLink RX4 85 yX4_sendRun, Cond.instanceMethod yX4_sendRun, Cond.selects RX4 yX4_sendRun yX4_sendRun, Cond.code yX4_sendRun cX4_sendRun 5 none, Cond.fieldLink RX4 23 "FaxFilter$Sender" "darkTable" "LFaxFilter$Table;", Cond.fieldLink RX4 19 "FaxFilter$Sender" "whiteTable" "LFaxFilter$Table;", Cond.methodLink RX4 102 yX6_slotOfMake, Cond.static yX6_slotOfMake, Cond.initialized RX6, Cond.code yX6_slotOfMake cX6_slotOfMake 1 (some .int), Cond.methodLink RX4 108 yX6_codeOf, Cond.instanceMethod yX6_codeOf, Cond.selects RX6 yX6_codeOf yX6_codeOf, Cond.code yX6_codeOf cX6_codeOf 2 (some .int), Cond.fieldLink RX6 15 "FaxFilter$Table" "codes" "[I", Cond.methodLink RX4 111 yX6_bitsOf, Cond.instanceMethod yX6_bitsOf]
def wsX4_sendDrawn_r4 : List Cond := [Cond.selects RX6 yX6_bitsOf yX6_bitsOf, Cond.code yX6_bitsOf cX6_bitsOf 2 (some .int), Cond.fieldLink RX6 11 "FaxFilter$Table" "bits" "[I"]
def wsX4_sendDrawn : List Cond := .code yX4_sendDrawn cX4_sendDrawn 9 none :: ((wsX4_sendDrawn_r1 ++ (wsX4_sendDrawn_r2 ++ (wsX4_sendDrawn_r3 ++ wsX4_sendDrawn_r4))) ++ wsX40 ++ wsX20 ++ wsX10 ++ wsX60 ++ (vx_atM "java/lang/ArrayIndexOutOfBoundsException" ["java/lang/IndexOutOfBoundsException", "java/lang/RuntimeException", "java/lang/Exception"]).filter goodWord)
def wsX4_sendEnd_r1 : List Cond := [Cond.fieldLink RX4 9 "FaxFilter$Sender" "settings" "LFaxFilter$Settings;", Cond.fieldLink RX4 41 "FaxFilter$Settings" "kind" "I", Cond.fieldLink RX4 64 "FaxFilter$Settings" "aligned" "Z", Cond.fieldLink RX4 26 "FaxFilter$Sender" "out" "LFaxFilter$BitsOut;", Cond.methodLink RX4 68 yX1_alignFor, Cond.instanceMethod yX1_alignFor, Cond.selects RX1 yX1_alignFor yX1_alignFor, Cond.initialized RX1, Cond.code yX1_alignFor cX1_alignFor 2 none, Cond.fieldLink RX1 15 "FaxFilter$BitsOut" "bits" "I", Cond.methodLink RX1 19 yX1_send, Cond.instanceMethod yX1_send, Cond.selects RX1 yX1_send yX1_send, Cond.code yX1_send cX1_send 7 none, Cond.fieldLink RX1 9 "FaxFilter$BitsOut" "bytes" "[B", Cond.methodLink RX4 60 yX5_hasMarks, Cond.instanceMethod yX5_hasMarks, Cond.selects RX5 yX5_hasMarks yX5_hasMarks, Cond.initialized RX5, Cond.code yX5_hasMarks cX5_hasMarks 1 (some .boolean), Cond.fieldLink RX5 9 "FaxFilter$Settings" "kind" "I", Cond.fieldLink RX5 15 "FaxFilter$Settings" "marks" "Z", Cond.methodLink RX4 71 yX4_sendMark, Cond.instanceMethod yX4_sendMark]
def wsX4_sendEnd_r2 : List Cond := [Cond.selects RX4 yX4_sendMark yX4_sendMark, Cond.initialized RX4, Cond.code yX4_sendMark cX4_sendMark 2 none, Cond.methodLink RX4 74 yX1_send]
def wsX4_sendEnd : List Cond := .code yX4_sendEnd cX4_sendEnd 3 none :: ((wsX4_sendEnd_r1 ++ wsX4_sendEnd_r2) ++ wsX40 ++ wsX50 ++ wsX10 ++ (vx_atM "java/lang/ArrayIndexOutOfBoundsException" ["java/lang/IndexOutOfBoundsException", "java/lang/RuntimeException", "java/lang/Exception"]).filter goodWord)
def wsX4_sendAll_r1 : List Cond := [Cond.fieldLink RX4 26 "FaxFilter$Sender" "out" "LFaxFilter$BitsOut;", Cond.fieldLink RX4 15 "FaxFilter$Sender" "picture" "LFaxFilter$Picture;", Cond.fieldLink RX4 35 "FaxFilter$Picture" "rows" "I", Cond.fieldLink RX4 9 "FaxFilter$Sender" "settings" "LFaxFilter$Settings;", Cond.fieldLink RX4 41 "FaxFilter$Settings" "kind" "I", Cond.methodLink RX4 30 yX1_restart, Cond.instanceMethod yX1_restart, Cond.selects RX1 yX1_restart yX1_restart, Cond.initialized RX1, Cond.code yX1_restart cX1_restart 1 none, Cond.fieldLink RX1 15 "FaxFilter$BitsOut" "bits" "I", Cond.methodLink RX4 46 yX4_sendStart, Cond.instanceMethod yX4_sendStart, Cond.selects RX4 yX4_sendStart yX4_sendStart, Cond.initialized RX4, Cond.code yX4_sendStart cX4_sendStart 2 none, Cond.fieldLink RX4 64 "FaxFilter$Settings" "aligned" "Z", Cond.methodLink RX4 60 yX5_hasMarks, Cond.instanceMethod yX5_hasMarks, Cond.selects RX5 yX5_hasMarks yX5_hasMarks, Cond.initialized RX5, Cond.code yX5_hasMarks cX5_hasMarks 1 (some .boolean), Cond.fieldLink RX5 9 "FaxFilter$Settings" "kind" "I", Cond.fieldLink RX5 15 "FaxFilter$Settings" "marks" "Z"]
def wsX4_sendAll_r2 : List Cond := [Cond.methodLink RX4 68 yX1_alignFor, Cond.instanceMethod yX1_alignFor, Cond.selects RX1 yX1_alignFor yX1_alignFor, Cond.code yX1_alignFor cX1_alignFor 2 none, Cond.methodLink RX1 19 yX1_send, Cond.instanceMethod yX1_send, Cond.selects RX1 yX1_send yX1_send, Cond.code yX1_send cX1_send 7 none, Cond.fieldLink RX1 9 "FaxFilter$BitsOut" "bytes" "[B", Cond.methodLink RX4 71 yX4_sendMark, Cond.instanceMethod yX4_sendMark, Cond.selects RX4 yX4_sendMark yX4_sendMark, Cond.code yX4_sendMark cX4_sendMark 2 none, Cond.methodLink RX4 74 yX1_send, Cond.methodLink RX4 50 yX4_sendPlain, Cond.instanceMethod yX4_sendPlain, Cond.selects RX4 yX4_sendPlain yX4_sendPlain, Cond.code yX4_sendPlain cX4_sendPlain 6 none, Cond.fieldLink RX4 78 "FaxFilter$Picture" "columns" "I", Cond.methodLink RX4 81 yX2_nextOf, Cond.instanceMethod yX2_nextOf, Cond.selects RX2 yX2_nextOf yX2_nextOf, Cond.initialized RX2, Cond.code yX2_nextOf cX2_nextOf 10 (some .int)]
def wsX4_sendAll_r3 : List Cond := [Cond.methodLink RX2 43 Lib.Math.max.name, Cond.static Lib.Math.max.name, Cond.initialized "java/lang/Math", Cond.code Lib.Math.max.name Lib.Math.max.code 2 (some .int), Cond.fieldLink RX2 15 "FaxFilter$Picture" "columns" "I", Cond.constantLong RX2 41 (-1), Cond.methodLink RX2 48 Lib.Math.min.name, Cond.static Lib.Math.min.name, Cond.code Lib.Math.min.name Lib.Math.min.code 2 (some .int), Cond.methodLink RX2 37 yX2_wordOf, Cond.instanceMethod yX2_wordOf, Cond.selects RX2 yX2_wordOf yX2_wordOf, Cond.code yX2_wordOf cX2_wordOf 4 (some .long), Cond.fieldLink RX2 22 "FaxFilter$Picture" "words" "[J", Cond.methodLink RX2 33 yX2_indexOf, Cond.instanceMethod yX2_indexOf, Cond.selects RX2 yX2_indexOf yX2_indexOf, Cond.code yX2_indexOf cX2_indexOf 4 (some .int), Cond.fieldLink RX2 19 "FaxFilter$Picture" "wide" "I", Cond.methodLink RX2 51 yJ13_bitCount_95d88, Cond.static yJ13_bitCount_95d88, Cond.initialized RJ13, Cond.code yJ13_bitCount_95d88 cJ13_bitCount_95d88 2 (some .int), Cond.constantLong RJ13 314 (6148914691236517205)]
def wsX4_sendAll_r4 : List Cond := [Cond.constantLong RJ13 316 (3689348814741910323), Cond.constantLong RJ13 318 (1085102592571150095), Cond.methodLink RX4 85 yX4_sendRun, Cond.instanceMethod yX4_sendRun, Cond.selects RX4 yX4_sendRun yX4_sendRun, Cond.code yX4_sendRun cX4_sendRun 5 none, Cond.fieldLink RX4 23 "FaxFilter$Sender" "darkTable" "LFaxFilter$Table;", Cond.fieldLink RX4 19 "FaxFilter$Sender" "whiteTable" "LFaxFilter$Table;", Cond.methodLink RX4 102 yX6_slotOfMake, Cond.static yX6_slotOfMake, Cond.initialized RX6, Cond.code yX6_slotOfMake cX6_slotOfMake 1 (some .int), Cond.methodLink RX4 108 yX6_codeOf, Cond.instanceMethod yX6_codeOf, Cond.selects RX6 yX6_codeOf yX6_codeOf, Cond.code yX6_codeOf cX6_codeOf 2 (some .int), Cond.fieldLink RX6 15 "FaxFilter$Table" "codes" "[I", Cond.methodLink RX4 111 yX6_bitsOf, Cond.instanceMethod yX6_bitsOf, Cond.selects RX6 yX6_bitsOf yX6_bitsOf, Cond.code yX6_bitsOf cX6_bitsOf 2 (some .int), Cond.fieldLink RX6 11 "FaxFilter$Table" "bits" "[I", Cond.methodLink RX4 54 yX4_sendDrawn, Cond.instanceMethod yX4_sendDrawn]
def wsX4_sendAll_r5 : List Cond := [Cond.selects RX4 yX4_sendDrawn yX4_sendDrawn, Cond.code yX4_sendDrawn cX4_sendDrawn 9 none, Cond.methodLink RX4 89 yX2_changeTo, Cond.instanceMethod yX2_changeTo, Cond.selects RX2 yX2_changeTo yX2_changeTo, Cond.code yX2_changeTo cX2_changeTo 5 (some .int), Cond.methodLink RX2 57 yX2_isDark, Cond.instanceMethod yX2_isDark, Cond.selects RX2 yX2_isDark yX2_isDark, Cond.code yX2_isDark cX2_isDark 3 (some .boolean), Cond.methodLink RX2 61 yX2_nextOf, Cond.methodLink RX4 92 yX4_sendWay, Cond.instanceMethod yX4_sendWay, Cond.selects RX4 yX4_sendWay yX4_sendWay, Cond.code yX4_sendWay cX4_sendWay 2 none, Cond.methodLink RX4 57 yX4_sendEnd, Cond.instanceMethod yX4_sendEnd, Cond.selects RX4 yX4_sendEnd yX4_sendEnd, Cond.code yX4_sendEnd cX4_sendEnd 3 none]
def wsX4_sendAll : List Cond := .code yX4_sendAll cX4_sendAll 3 none :: ((wsX4_sendAll_r1 ++ (wsX4_sendAll_r2 ++ (wsX4_sendAll_r3 ++ (wsX4_sendAll_r4 ++ wsX4_sendAll_r5)))) ++ wsX40 ++ wsX20 ++ wsX50 ++ wsX10 ++ wsX60 ++ (vx_atM "java/lang/ArrayIndexOutOfBoundsException" ["java/lang/IndexOutOfBoundsException", "java/lang/RuntimeException", "java/lang/Exception"]).filter goodWord)
def wsX5_init : List Cond := .code yX5_init cX5_init 2 none :: ([.methodLink RX5 3 objectInit, .instanceMethod objectInit, .code objectInit ⟨#[0xb1]⟩ 1 none, .fieldLink RX5 9 "FaxFilter$Settings" "kind" "I"] ++ wsX50)
def wsX6_init : List Cond := .code yX6_init cX6_init 7 none :: ([.methodLink RX6 3 objectInit, .instanceMethod objectInit, .code objectInit ⟨#[0xb1]⟩ 1 none, .arrayClass .int, .fieldLink RX6 11 "FaxFilter$Table" "bits" "[I", .fieldLink RX6 15 "FaxFilter$Table" "codes" "[I", .fieldLink RX6 18 "FaxFilter$Table" "ordered" "[I", .fieldLink RX6 21 "FaxFilter$Table" "floors" "[I"] ++ wsX60 ++ (vx_atM "java/lang/ArrayIndexOutOfBoundsException" ["java/lang/IndexOutOfBoundsException", "java/lang/RuntimeException", "java/lang/Exception"]).filter goodWord)
def wsX6_slotOf : List Cond := .code yX6_slotOf cX6_slotOf 1 (some .int) :: ([.methodLink RX6 24 yX6_slotOfMake, .static yX6_slotOfMake, .initialized RX6, .code yX6_slotOfMake cX6_slotOfMake 1 (some .int)])
def wsX7_init_r1 : List Cond := [Cond.methodLink RX7 3 objectInit, Cond.instanceMethod objectInit, Cond.code objectInit ⟨#[0xb1]⟩ 1 none, Cond.classLink RX7 9 RX5, Cond.instantiable RX5 5, Cond.initialized RX5, Cond.methodLink RX7 11 Lib.Math.min.name, Cond.static Lib.Math.min.name, Cond.initialized "java/lang/Math", Cond.code Lib.Math.min.name Lib.Math.min.code 2 (some .int), Cond.methodLink RX7 17 Lib.Math.max.name, Cond.static Lib.Math.max.name, Cond.code Lib.Math.max.name Lib.Math.max.code 2 (some .int), Cond.fieldLink RX7 23 "FaxFilter" "settings" "LFaxFilter$Settings;", Cond.classLink RX7 27 RX2, Cond.instantiable RX2 5, Cond.initialized RX2, Cond.fieldLink RX7 30 "FaxFilter" "picture" "LFaxFilter$Picture;", Cond.classLink RX7 34 RX6, Cond.instantiable RX6 4, Cond.initialized RX6, Cond.fieldLink RX7 36 "FaxFilter" "WHITE_BITS" "[B", Cond.fieldLink RX7 43 "FaxFilter" "whiteTable" "LFaxFilter$Table;", Cond.fieldLink RX7 47 "FaxFilter" "DARK_BITS" "[B"]
def wsX7_init_r2 : List Cond := [Cond.fieldLink RX7 50 "FaxFilter" "darkTable" "LFaxFilter$Table;", Cond.classLink RX7 53 RX0, Cond.instantiable RX0 3, Cond.initialized RX0, Cond.fieldLink RX7 56 "FaxFilter" "collected" "LFaxFilter$BitsIn;", Cond.classLink RX7 60 RX1, Cond.instantiable RX1 2, Cond.initialized RX1, Cond.fieldLink RX7 62 "FaxFilter$Picture" "columns" "I", Cond.fieldLink RX7 67 "FaxFilter" "written" "LFaxFilter$BitsOut;", Cond.classLink RX7 71 RX4, Cond.instantiable RX4 5, Cond.initialized RX4, Cond.fieldLink RX7 76 "FaxFilter" "sender" "LFaxFilter$Sender;", Cond.classLink RX7 80 RX3, Cond.instantiable RX3 9, Cond.initialized RX3, Cond.fieldLink RX7 85 "FaxFilter" "receiver" "LFaxFilter$Receiver;", Cond.methodLink RX7 20 yX5_init, Cond.instanceMethod yX5_init, Cond.code yX5_init cX5_init 2 none, Cond.methodLink RX5 3 objectInit, Cond.fieldLink RX5 9 "FaxFilter$Settings" "kind" "I", Cond.methodLink RX7 29 yX2_init]
def wsX7_init_r3 : List Cond := [Cond.instanceMethod yX2_init, Cond.code yX2_init cX2_init 2 none, Cond.methodLink RX2 3 objectInit, Cond.arrayClass .int, Cond.fieldLink RX2 9 "FaxFilter$Picture" "states" "[I", Cond.fieldLink RX2 15 "FaxFilter$Picture" "columns" "I", Cond.fieldLink RX2 19 "FaxFilter$Picture" "wide" "I", Cond.arrayClass .long, Cond.fieldLink RX2 22 "FaxFilter$Picture" "words" "[J", Cond.methodLink RX7 40 yX6_init, Cond.instanceMethod yX6_init, Cond.code yX6_init cX6_init 7 none, Cond.methodLink RX6 3 objectInit, Cond.fieldLink RX6 11 "FaxFilter$Table" "bits" "[I", Cond.fieldLink RX6 15 "FaxFilter$Table" "codes" "[I", Cond.fieldLink RX6 18 "FaxFilter$Table" "ordered" "[I", Cond.fieldLink RX6 21 "FaxFilter$Table" "floors" "[I", Cond.instanceMethod yX0_init, Cond.code yX0_init cX0_init 1 none, Cond.methodLink RX0 3 objectInit, Cond.arrayClass .byte, Cond.fieldLink RX0 9 "FaxFilter$BitsIn" "bytes" "[B", Cond.methodLink RX7 66 yX1_init, Cond.instanceMethod yX1_init]
def wsX7_init_r4 : List Cond := [Cond.code yX1_init cX1_init 2 none, Cond.methodLink RX1 3 objectInit, Cond.fieldLink RX1 9 "FaxFilter$BitsOut" "bytes" "[B", Cond.methodLink RX7 73 yX4_init, Cond.instanceMethod yX4_init, Cond.code yX4_init cX4_init 6 none, Cond.methodLink RX4 3 objectInit, Cond.fieldLink RX4 9 "FaxFilter$Sender" "settings" "LFaxFilter$Settings;", Cond.fieldLink RX4 15 "FaxFilter$Sender" "picture" "LFaxFilter$Picture;", Cond.fieldLink RX4 19 "FaxFilter$Sender" "whiteTable" "LFaxFilter$Table;", Cond.fieldLink RX4 23 "FaxFilter$Sender" "darkTable" "LFaxFilter$Table;", Cond.fieldLink RX4 26 "FaxFilter$Sender" "out" "LFaxFilter$BitsOut;", Cond.methodLink RX7 82 yX3_init, Cond.instanceMethod yX3_init, Cond.code yX3_init cX3_init 6 none, Cond.methodLink RX3 3 objectInit, Cond.fieldLink RX3 9 "FaxFilter$Receiver" "settings" "LFaxFilter$Settings;", Cond.fieldLink RX3 15 "FaxFilter$Receiver" "picture" "LFaxFilter$Picture;", Cond.fieldLink RX3 19 "FaxFilter$Receiver" "whiteTable" "LFaxFilter$Table;", Cond.fieldLink RX3 23 "FaxFilter$Receiver" "darkTable" "LFaxFilter$Table;", Cond.fieldLink RX3 26 "FaxFilter$Receiver" "in" "LFaxFilter$BitsIn;"]
def wsX7_init : List Cond := .code yX7_init cX7_init 3 none :: ((wsX7_init_r1 ++ (wsX7_init_r2 ++ (wsX7_init_r3 ++ wsX7_init_r4))) ++ wsX50 ++ wsX70 ++ wsX20 ++ wsX60 ++ wsX00 ++ wsX10 ++ wsX40 ++ wsX30 ++ (vx_atM "java/lang/ArrayIndexOutOfBoundsException" ["java/lang/IndexOutOfBoundsException", "java/lang/RuntimeException", "java/lang/Exception"]).filter goodWord)
def wsX7_told : List Cond := .code yX7_told cX7_told 2 (some .int) :: ([.classLink RX7 107 "java/lang/IllegalArgumentException", .initialized "java/lang/IllegalArgumentException", .fieldLink RX7 23 "FaxFilter" "settings" "LFaxFilter$Settings;", .fieldLink RX7 89 "FaxFilter$Settings" "kind" "I", .fieldLink RX7 30 "FaxFilter" "picture" "LFaxFilter$Picture;", .fieldLink RX7 62 "FaxFilter$Picture" "columns" "I", .fieldLink RX7 92 "FaxFilter$Picture" "rows" "I", .fieldLink RX7 56 "FaxFilter" "collected" "LFaxFilter$BitsIn;", .fieldLink RX7 95 "FaxFilter$BitsIn" "size" "I", .fieldLink RX7 67 "FaxFilter" "written" "LFaxFilter$BitsOut;", .fieldLink RX7 101 "FaxFilter$BitsIn" "passed" "I", .fieldLink RX7 85 "FaxFilter" "receiver" "LFaxFilter$Receiver;", .fieldLink RX7 104 "FaxFilter$Receiver" "damaged" "I", .methodLink RX7 98 yX1_size, .instanceMethod yX1_size, .selects RX1 yX1_size yX1_size, .initialized RX1, .code yX1_size cX1_size 1 (some .int), .fieldLink RX1 15 "FaxFilter$BitsOut" "bits" "I"] ++ wsX70 ++ wsX50 ++ wsX20 ++ wsX00 ++ wsX30 ++ wsX10 ++ (vx_atS RX7 111 "java/lang/IllegalArgumentException" ["java/lang/RuntimeException", "java/lang/Exception"]).filter goodWord)
def wsX7_setting : List Cond := .code yX7_setting cX7_setting 3 none :: ([.classLink RX7 107 "java/lang/IllegalArgumentException", .initialized "java/lang/IllegalArgumentException", .fieldLink RX7 23 "FaxFilter" "settings" "LFaxFilter$Settings;", .fieldLink RX7 114 "FaxFilter$Settings" "marks" "Z", .fieldLink RX7 118 "FaxFilter$Settings" "aligned" "Z", .fieldLink RX7 121 "FaxFilter$Settings" "darkIsZero" "Z", .fieldLink RX7 124 "FaxFilter$Settings" "repeatDamaged" "Z"] ++ wsX70 ++ wsX50 ++ (vx_atS RX7 111 "java/lang/IllegalArgumentException" ["java/lang/RuntimeException", "java/lang/Exception"]).filter goodWord)
def wsX7_add : List Cond := .code yX7_add cX7_add 5 (some .boolean) :: ([.fieldLink RX7 56 "FaxFilter" "collected" "LFaxFilter$BitsIn;", .fieldLink RX7 95 "FaxFilter$BitsIn" "size" "I", .methodLink RX7 129 yX0_append, .instanceMethod yX0_append, .selects RX0 yX0_append yX0_append, .initialized RX0, .code yX0_append cX0_append 2 none, .fieldLink RX0 15 "FaxFilter$BitsIn" "size" "I", .fieldLink RX0 9 "FaxFilter$BitsIn" "bytes" "[B"] ++ wsX70 ++ wsX00 ++ (vx_atM "java/lang/ArrayIndexOutOfBoundsException" ["java/lang/IndexOutOfBoundsException", "java/lang/RuntimeException", "java/lang/Exception"]).filter goodWord)
def wsX7_take_r1 : List Cond := [Cond.fieldLink RX7 67 "FaxFilter" "written" "LFaxFilter$BitsOut;", Cond.methodLink RX7 11 Lib.Math.min.name, Cond.static Lib.Math.min.name, Cond.initialized "java/lang/Math", Cond.code Lib.Math.min.name Lib.Math.min.code 2 (some .int), Cond.fieldLink RX7 56 "FaxFilter" "collected" "LFaxFilter$BitsIn;", Cond.methodLink RX7 98 yX1_size, Cond.instanceMethod yX1_size, Cond.selects RX1 yX1_size yX1_size, Cond.initialized RX1, Cond.code yX1_size cX1_size 1 (some .int), Cond.fieldLink RX1 15 "FaxFilter$BitsOut" "bits" "I", Cond.methodLink RX7 132 yX0_empty, Cond.instanceMethod yX0_empty, Cond.selects RX0 yX0_empty yX0_empty, Cond.initialized RX0, Cond.code yX0_empty cX0_empty 1 none, Cond.fieldLink RX0 15 "FaxFilter$BitsIn" "size" "I", Cond.methodLink RX7 135 yX1_byteAt, Cond.instanceMethod yX1_byteAt, Cond.selects RX1 yX1_byteAt yX1_byteAt, Cond.code yX1_byteAt cX1_byteAt 2 (some .int), Cond.fieldLink RX1 9 "FaxFilter$BitsOut" "bytes" "[B", Cond.methodLink RX7 129 yX0_append]
def wsX7_take_r2 : List Cond := [Cond.instanceMethod yX0_append, Cond.selects RX0 yX0_append yX0_append, Cond.code yX0_append cX0_append 2 none, Cond.fieldLink RX0 9 "FaxFilter$BitsIn" "bytes" "[B"]
def wsX7_take : List Cond := .code yX7_take cX7_take 3 (some .int) :: ((wsX7_take_r1 ++ wsX7_take_r2) ++ wsX70 ++ wsX10 ++ wsX00 ++ (vx_atM "java/lang/ArrayIndexOutOfBoundsException" ["java/lang/IndexOutOfBoundsException", "java/lang/RuntimeException", "java/lang/Exception"]).filter goodWord)
def wsX7_drop : List Cond := .code yX7_drop cX7_drop 1 none :: ([.fieldLink RX7 56 "FaxFilter" "collected" "LFaxFilter$BitsIn;", .methodLink RX7 132 yX0_empty, .instanceMethod yX0_empty, .selects RX0 yX0_empty yX0_empty, .initialized RX0, .code yX0_empty cX0_empty 1 none, .fieldLink RX0 15 "FaxFilter$BitsIn" "size" "I"] ++ wsX70 ++ wsX00)
def wsX7_read_r1 : List Cond := [Cond.classLink RX7 107 "java/lang/IllegalArgumentException", Cond.initialized "java/lang/IllegalArgumentException", Cond.fieldLink RX7 85 "FaxFilter" "receiver" "LFaxFilter$Receiver;", Cond.fieldLink RX7 30 "FaxFilter" "picture" "LFaxFilter$Picture;", Cond.fieldLink RX7 92 "FaxFilter$Picture" "rows" "I", Cond.methodLink RX7 141 yX3_begin, Cond.instanceMethod yX3_begin, Cond.selects RX3 yX3_begin yX3_begin, Cond.initialized RX3, Cond.code yX3_begin cX3_begin 1 none, Cond.fieldLink RX3 26 "FaxFilter$Receiver" "in" "LFaxFilter$BitsIn;", Cond.fieldLink RX3 15 "FaxFilter$Receiver" "picture" "LFaxFilter$Picture;", Cond.fieldLink RX3 35 "FaxFilter$Picture" "rows" "I", Cond.fieldLink RX3 41 "FaxFilter$Receiver" "damaged" "I", Cond.methodLink RX3 30 yX0_restart, Cond.instanceMethod yX0_restart, Cond.selects RX0 yX0_restart yX0_restart, Cond.initialized RX0, Cond.code yX0_restart cX0_restart 1 none, Cond.fieldLink RX0 19 "FaxFilter$BitsIn" "passed" "I", Cond.methodLink RX7 144 yX3_reachRow, Cond.instanceMethod yX3_reachRow, Cond.selects RX3 yX3_reachRow yX3_reachRow, Cond.code yX3_reachRow cX3_reachRow 3 (some .boolean)]
def wsX7_read_r2 : List Cond := [Cond.fieldLink RX3 9 "FaxFilter$Receiver" "settings" "LFaxFilter$Settings;", Cond.fieldLink RX3 53 "FaxFilter$Settings" "kind" "I", Cond.fieldLink RX3 56 "FaxFilter$Receiver" "isPlain" "Z", Cond.fieldLink RX3 72 "FaxFilter$Settings" "aligned" "Z", Cond.methodLink RX3 44 yX5_hasMarks, Cond.instanceMethod yX5_hasMarks, Cond.selects RX5 yX5_hasMarks yX5_hasMarks, Cond.initialized RX5, Cond.code yX5_hasMarks cX5_hasMarks 1 (some .boolean), Cond.fieldLink RX5 9 "FaxFilter$Settings" "kind" "I", Cond.fieldLink RX5 15 "FaxFilter$Settings" "marks" "Z", Cond.methodLink RX3 50 yX0_passMark, Cond.instanceMethod yX0_passMark, Cond.selects RX0 yX0_passMark yX0_passMark, Cond.code yX0_passMark cX0_passMark 5 (some .boolean), Cond.fieldLink RX0 15 "FaxFilter$BitsIn" "size" "I", Cond.methodLink RX0 40 yX0_bitAt, Cond.instanceMethod yX0_bitAt, Cond.selects RX0 yX0_bitAt yX0_bitAt, Cond.code yX0_bitAt cX0_bitAt 2 (some .int), Cond.methodLink RX0 36 yX0_byteAt, Cond.instanceMethod yX0_byteAt, Cond.selects RX0 yX0_byteAt yX0_byteAt, Cond.code yX0_byteAt cX0_byteAt 2 (some .int)]
def wsX7_read_r3 : List Cond := [Cond.fieldLink RX0 9 "FaxFilter$BitsIn" "bytes" "[B", Cond.methodLink RX3 60 yX0_left, Cond.instanceMethod yX0_left, Cond.selects RX0 yX0_left yX0_left, Cond.code yX0_left cX0_left 1 (some .int), Cond.methodLink RX3 64 yX0_peek, Cond.instanceMethod yX0_peek, Cond.selects RX0 yX0_peek yX0_peek, Cond.code yX0_peek cX0_peek 4 (some .int), Cond.methodLink RX3 68 yX0_pass, Cond.instanceMethod yX0_pass, Cond.selects RX0 yX0_pass yX0_pass, Cond.code yX0_pass cX0_pass 2 none, Cond.methodLink RX0 26 Lib.Math.min.name, Cond.static Lib.Math.min.name, Cond.initialized "java/lang/Math", Cond.code Lib.Math.min.name Lib.Math.min.code 2 (some .int), Cond.methodLink RX0 22 yX0_left, Cond.methodLink RX3 75 yX0_passToByte, Cond.instanceMethod yX0_passToByte, Cond.selects RX0 yX0_passToByte yX0_passToByte, Cond.code yX0_passToByte cX0_passToByte 1 none, Cond.methodLink RX0 32 yX0_pass, Cond.methodLink RX3 78 yX0_isMarkNext]
def wsX7_read_r4 : List Cond := [Cond.instanceMethod yX0_isMarkNext, Cond.selects RX0 yX0_isMarkNext yX0_isMarkNext, Cond.code yX0_isMarkNext cX0_isMarkNext 2 (some .boolean), Cond.methodLink RX0 43 yX0_zeros, Cond.instanceMethod yX0_zeros, Cond.selects RX0 yX0_zeros yX0_zeros, Cond.code yX0_zeros cX0_zeros 3 (some .int), Cond.methodLink RX7 148 yX3_readRow, Cond.instanceMethod yX3_readRow, Cond.selects RX3 yX3_readRow yX3_readRow, Cond.code yX3_readRow cX3_readRow 3 (some .boolean), Cond.fieldLink RX3 84 "FaxFilter$Receiver" "reached" "I", Cond.fieldLink RX3 87 "FaxFilter$Receiver" "isCut" "Z", Cond.fieldLink RX3 96 "FaxFilter$Settings" "repeatDamaged" "Z", Cond.methodLink RX3 81 yX2_whiten, Cond.instanceMethod yX2_whiten, Cond.selects RX2 yX2_whiten yX2_whiten, Cond.initialized RX2, Cond.code yX2_whiten cX2_whiten 2 none, Cond.fieldLink RX2 15 "FaxFilter$Picture" "columns" "I", Cond.methodLink RX2 29 yX2_paint, Cond.instanceMethod yX2_paint, Cond.selects RX2 yX2_paint yX2_paint, Cond.code yX2_paint cX2_paint 13 none]
def wsX7_read_r5 : List Cond := [Cond.constantLong RX2 41 (-1), Cond.methodLink RX2 43 Lib.Math.max.name, Cond.static Lib.Math.max.name, Cond.code Lib.Math.max.name Lib.Math.max.code 2 (some .int), Cond.methodLink RX2 48 Lib.Math.min.name, Cond.fieldLink RX2 22 "FaxFilter$Picture" "words" "[J", Cond.methodLink RX2 33 yX2_indexOf, Cond.instanceMethod yX2_indexOf, Cond.selects RX2 yX2_indexOf yX2_indexOf, Cond.code yX2_indexOf cX2_indexOf 4 (some .int), Cond.fieldLink RX2 19 "FaxFilter$Picture" "wide" "I", Cond.methodLink RX3 90 yX3_readPlain, Cond.instanceMethod yX3_readPlain, Cond.selects RX3 yX3_readPlain yX3_readPlain, Cond.code yX3_readPlain cX3_readPlain 5 (some .int), Cond.fieldLink RX3 105 "FaxFilter$Picture" "columns" "I", Cond.methodLink RX3 108 yX3_readRun, Cond.instanceMethod yX3_readRun, Cond.selects RX3 yX3_readRun yX3_readRun, Cond.code yX3_readRun cX3_readRun 8 (some .int), Cond.fieldLink RX3 23 "FaxFilter$Receiver" "darkTable" "LFaxFilter$Table;", Cond.fieldLink RX3 19 "FaxFilter$Receiver" "whiteTable" "LFaxFilter$Table;", Cond.methodLink RX3 153 yX6_slotBeginning, Cond.instanceMethod yX6_slotBeginning]
def wsX7_read_r6 : List Cond := [Cond.selects RX6 yX6_slotBeginning yX6_slotBeginning, Cond.initialized RX6, Cond.code yX6_slotBeginning cX6_slotBeginning 3 (some .int), Cond.fieldLink RX6 21 "FaxFilter$Table" "floors" "[I", Cond.fieldLink RX6 18 "FaxFilter$Table" "ordered" "[I", Cond.methodLink RX3 158 yX6_bitsOf, Cond.instanceMethod yX6_bitsOf, Cond.selects RX6 yX6_bitsOf yX6_bitsOf, Cond.code yX6_bitsOf cX6_bitsOf 2 (some .int), Cond.fieldLink RX6 11 "FaxFilter$Table" "bits" "[I", Cond.methodLink RX3 161 yX6_runOf, Cond.static yX6_runOf, Cond.code yX6_runOf cX6_runOf 1 (some .int), Cond.methodLink RX3 112 yX3_plainStateWithout, Cond.instanceMethod yX3_plainStateWithout, Cond.selects RX3 yX3_plainStateWithout yX3_plainStateWithout, Cond.code yX3_plainStateWithout cX3_plainStateWithout 2 (some .int), Cond.methodLink RX3 119 yX0_zeros, Cond.methodLink RX3 115 yX3_layTo, Cond.instanceMethod yX3_layTo, Cond.selects RX3 yX3_layTo yX3_layTo, Cond.code yX3_layTo cX3_layTo 5 none, Cond.methodLink RX3 136 Lib.Math.min.name, Cond.methodLink RX3 142 yX2_paint]
def wsX7_read_r7 : List Cond := [Cond.methodLink RX3 93 yX3_readDrawn, Cond.instanceMethod yX3_readDrawn, Cond.selects RX3 yX3_readDrawn yX3_readDrawn, Cond.code yX3_readDrawn cX3_readDrawn 8 (some .int), Cond.methodLink RX3 122 yX3_readWay, Cond.instanceMethod yX3_readWay, Cond.selects RX3 yX3_readWay yX3_readWay, Cond.code yX3_readWay cX3_readWay 3 (some .int), Cond.methodLink RX3 125 yX3_layAcross, Cond.instanceMethod yX3_layAcross, Cond.selects RX3 yX3_layAcross yX3_layAcross, Cond.code yX3_layAcross cX3_layAcross 5 (some .int), Cond.methodLink RX3 129 yX2_changeTo, Cond.instanceMethod yX2_changeTo, Cond.selects RX2 yX2_changeTo yX2_changeTo, Cond.code yX2_changeTo cX2_changeTo 5 (some .int), Cond.methodLink RX2 57 yX2_isDark, Cond.instanceMethod yX2_isDark, Cond.selects RX2 yX2_isDark yX2_isDark, Cond.code yX2_isDark cX2_isDark 3 (some .boolean), Cond.methodLink RX2 37 yX2_wordOf, Cond.instanceMethod yX2_wordOf, Cond.selects RX2 yX2_wordOf yX2_wordOf, Cond.code yX2_wordOf cX2_wordOf 4 (some .long)]
def wsX7_read_r8 : List Cond := [Cond.methodLink RX2 61 yX2_nextOf, Cond.instanceMethod yX2_nextOf, Cond.selects RX2 yX2_nextOf yX2_nextOf, Cond.code yX2_nextOf cX2_nextOf 10 (some .int), Cond.methodLink RX2 51 yJ13_bitCount_95d88, Cond.static yJ13_bitCount_95d88, Cond.initialized RJ13, Cond.code yJ13_bitCount_95d88 cJ13_bitCount_95d88 2 (some .int), Cond.constantLong RJ13 314 (6148914691236517205), Cond.constantLong RJ13 316 (3689348814741910323), Cond.constantLong RJ13 318 (1085102592571150095), Cond.methodLink RX3 133 yX2_nextOf, Cond.methodLink RX3 99 yX2_copyAbove, Cond.instanceMethod yX2_copyAbove, Cond.selects RX2 yX2_copyAbove yX2_copyAbove, Cond.code yX2_copyAbove cX2_copyAbove 4 none, Cond.methodLink RX3 102 yX2_keep, Cond.instanceMethod yX2_keep, Cond.selects RX2 yX2_keep yX2_keep, Cond.code yX2_keep cX2_keep 2 none, Cond.fieldLink RX2 26 "FaxFilter$Picture" "rows" "I", Cond.fieldLink RX2 9 "FaxFilter$Picture" "states" "[I"]
def wsX7_read : List Cond := .code yX7_read cX7_read 4 (some .int) :: ((wsX7_read_r1 ++ (wsX7_read_r2 ++ (wsX7_read_r3 ++ (wsX7_read_r4 ++ (wsX7_read_r5 ++ (wsX7_read_r6 ++ (wsX7_read_r7 ++ wsX7_read_r8))))))) ++ wsX70 ++ wsX20 ++ wsX30 ++ wsX00 ++ wsX50 ++ wsX60 ++ (vx_atS RX7 111 "java/lang/IllegalArgumentException" ["java/lang/RuntimeException", "java/lang/Exception"]).filter goodWord ++ (vx_atM "java/lang/ArrayIndexOutOfBoundsException" ["java/lang/IndexOutOfBoundsException", "java/lang/RuntimeException", "java/lang/Exception"]).filter goodWord)
def wsX7_state : List Cond := .code yX7_state cX7_state 2 (some .int) :: ([.fieldLink RX7 30 "FaxFilter" "picture" "LFaxFilter$Picture;", .classLink RX7 155 RJx00060, .instantiable RJx00060 6, .initialized RJx00060, .methodLink RX7 151 yX2_has, .instanceMethod yX2_has, .selects RX2 yX2_has yX2_has, .initialized RX2, .code yX2_has cX2_has 2 (some .boolean), .fieldLink RX2 26 "FaxFilter$Picture" "rows" "I", .methodLink RX7 160 yX2_stateOf, .instanceMethod yX2_stateOf, .selects RX2 yX2_stateOf yX2_stateOf, .code yX2_stateOf cX2_stateOf 2 (some .int), .fieldLink RX2 9 "FaxFilter$Picture" "states" "[I"] ++ wsX70 ++ wsJx000600 ++ wsX20 ++ (vx_atM "java/lang/ArrayIndexOutOfBoundsException" ["java/lang/IndexOutOfBoundsException", "java/lang/RuntimeException", "java/lang/Exception"]).filter goodWord)
def wsX7_row_r1 : List Cond := [Cond.classLink RX7 163 "java/lang/UnsupportedOperationException", Cond.initialized "java/lang/UnsupportedOperationException", Cond.fieldLink RX7 30 "FaxFilter" "picture" "LFaxFilter$Picture;", Cond.fieldLink RX7 92 "FaxFilter$Picture" "rows" "I", Cond.methodLink RX7 168 yX2_whiten, Cond.instanceMethod yX2_whiten, Cond.selects RX2 yX2_whiten yX2_whiten, Cond.initialized RX2, Cond.code yX2_whiten cX2_whiten 2 none, Cond.fieldLink RX2 15 "FaxFilter$Picture" "columns" "I", Cond.methodLink RX2 29 yX2_paint, Cond.instanceMethod yX2_paint, Cond.selects RX2 yX2_paint yX2_paint, Cond.code yX2_paint cX2_paint 13 none, Cond.constantLong RX2 41 (-1), Cond.methodLink RX2 43 Lib.Math.max.name, Cond.static Lib.Math.max.name, Cond.initialized "java/lang/Math", Cond.code Lib.Math.max.name Lib.Math.max.code 2 (some .int), Cond.methodLink RX2 48 Lib.Math.min.name, Cond.static Lib.Math.min.name, Cond.code Lib.Math.min.name Lib.Math.min.code 2 (some .int), Cond.fieldLink RX2 22 "FaxFilter$Picture" "words" "[J", Cond.methodLink RX2 33 yX2_indexOf]
def wsX7_row_r2 : List Cond := [Cond.instanceMethod yX2_indexOf, Cond.selects RX2 yX2_indexOf yX2_indexOf, Cond.code yX2_indexOf cX2_indexOf 4 (some .int), Cond.fieldLink RX2 19 "FaxFilter$Picture" "wide" "I", Cond.methodLink RX7 171 yX2_keep, Cond.instanceMethod yX2_keep, Cond.selects RX2 yX2_keep yX2_keep, Cond.code yX2_keep cX2_keep 2 none, Cond.fieldLink RX2 26 "FaxFilter$Picture" "rows" "I", Cond.fieldLink RX2 9 "FaxFilter$Picture" "states" "[I"]
def wsX7_row : List Cond := .code yX7_row cX7_row 2 (some .int) :: ((wsX7_row_r1 ++ wsX7_row_r2) ++ wsX70 ++ wsX20 ++ (vx_atS RX7 167 "java/lang/UnsupportedOperationException" ["java/lang/RuntimeException", "java/lang/Exception"]).filter goodWord ++ (vx_atM "java/lang/ArrayIndexOutOfBoundsException" ["java/lang/IndexOutOfBoundsException", "java/lang/RuntimeException", "java/lang/Exception"]).filter goodWord)
def wsX7_clear : List Cond := .code yX7_clear cX7_clear 1 none :: ([.fieldLink RX7 30 "FaxFilter" "picture" "LFaxFilter$Picture;", .fieldLink RX7 92 "FaxFilter$Picture" "rows" "I"] ++ wsX70 ++ wsX20)
def wsX7_put_r1 : List Cond := [Cond.classLink RX7 107 "java/lang/IllegalArgumentException", Cond.initialized "java/lang/IllegalArgumentException", Cond.fieldLink RX7 30 "FaxFilter" "picture" "LFaxFilter$Picture;", Cond.classLink RX7 155 RJx00060, Cond.instantiable RJx00060 6, Cond.initialized RJx00060, Cond.fieldLink RX7 62 "FaxFilter$Picture" "columns" "I", Cond.methodLink RX7 151 yX2_has, Cond.instanceMethod yX2_has, Cond.selects RX2 yX2_has yX2_has, Cond.initialized RX2, Cond.code yX2_has cX2_has 2 (some .boolean), Cond.fieldLink RX2 26 "FaxFilter$Picture" "rows" "I", Cond.methodLink RX7 176 yX2_paint, Cond.instanceMethod yX2_paint, Cond.selects RX2 yX2_paint yX2_paint, Cond.code yX2_paint cX2_paint 13 none, Cond.fieldLink RX2 15 "FaxFilter$Picture" "columns" "I", Cond.constantLong RX2 41 (-1), Cond.methodLink RX2 43 Lib.Math.max.name, Cond.static Lib.Math.max.name, Cond.initialized "java/lang/Math", Cond.code Lib.Math.max.name Lib.Math.max.code 2 (some .int), Cond.methodLink RX2 48 Lib.Math.min.name]
def wsX7_put_r2 : List Cond := [Cond.static Lib.Math.min.name, Cond.code Lib.Math.min.name Lib.Math.min.code 2 (some .int), Cond.fieldLink RX2 22 "FaxFilter$Picture" "words" "[J", Cond.methodLink RX2 33 yX2_indexOf, Cond.instanceMethod yX2_indexOf, Cond.selects RX2 yX2_indexOf yX2_indexOf, Cond.code yX2_indexOf cX2_indexOf 4 (some .int), Cond.fieldLink RX2 19 "FaxFilter$Picture" "wide" "I", Cond.methodLink RX7 180 yX2_mend, Cond.instanceMethod yX2_mend, Cond.selects RX2 yX2_mend yX2_mend, Cond.code yX2_mend cX2_mend 2 none, Cond.fieldLink RX2 9 "FaxFilter$Picture" "states" "[I"]
def wsX7_put : List Cond := .code yX7_put cX7_put 5 none :: ((wsX7_put_r1 ++ wsX7_put_r2) ++ wsX70 ++ wsJx000600 ++ wsX20 ++ (vx_atS RX7 111 "java/lang/IllegalArgumentException" ["java/lang/RuntimeException", "java/lang/Exception"]).filter goodWord ++ (vx_atM "java/lang/ArrayIndexOutOfBoundsException" ["java/lang/IndexOutOfBoundsException", "java/lang/RuntimeException", "java/lang/Exception"]).filter goodWord)
def wsX7_bit_r1 : List Cond := [Cond.fieldLink RX7 30 "FaxFilter" "picture" "LFaxFilter$Picture;", Cond.fieldLink RX7 62 "FaxFilter$Picture" "columns" "I", Cond.classLink RX7 155 RJx00060, Cond.instantiable RJx00060 6, Cond.initialized RJx00060, Cond.fieldLink RX7 23 "FaxFilter" "settings" "LFaxFilter$Settings;", Cond.fieldLink RX7 121 "FaxFilter$Settings" "darkIsZero" "Z", Cond.methodLink RX7 151 yX2_has, Cond.instanceMethod yX2_has, Cond.selects RX2 yX2_has yX2_has, Cond.initialized RX2, Cond.code yX2_has cX2_has 2 (some .boolean), Cond.fieldLink RX2 26 "FaxFilter$Picture" "rows" "I", Cond.methodLink RX7 185 yX2_isDark, Cond.instanceMethod yX2_isDark, Cond.selects RX2 yX2_isDark yX2_isDark, Cond.code yX2_isDark cX2_isDark 3 (some .boolean), Cond.fieldLink RX2 15 "FaxFilter$Picture" "columns" "I", Cond.methodLink RX2 37 yX2_wordOf, Cond.instanceMethod yX2_wordOf, Cond.selects RX2 yX2_wordOf yX2_wordOf, Cond.code yX2_wordOf cX2_wordOf 4 (some .long), Cond.fieldLink RX2 22 "FaxFilter$Picture" "words" "[J", Cond.methodLink RX2 33 yX2_indexOf]
def wsX7_bit_r2 : List Cond := [Cond.instanceMethod yX2_indexOf, Cond.selects RX2 yX2_indexOf yX2_indexOf, Cond.code yX2_indexOf cX2_indexOf 4 (some .int), Cond.fieldLink RX2 19 "FaxFilter$Picture" "wide" "I"]
def wsX7_bit : List Cond := .code yX7_bit cX7_bit 3 (some .int) :: ((wsX7_bit_r1 ++ wsX7_bit_r2) ++ wsX70 ++ wsX20 ++ wsJx000600 ++ wsX50 ++ (vx_atM "java/lang/ArrayIndexOutOfBoundsException" ["java/lang/IndexOutOfBoundsException", "java/lang/RuntimeException", "java/lang/Exception"]).filter goodWord)
def wsX7_run_r1 : List Cond := [Cond.fieldLink RX7 30 "FaxFilter" "picture" "LFaxFilter$Picture;", Cond.classLink RX7 155 RJx00060, Cond.instantiable RJx00060 6, Cond.initialized RJx00060, Cond.methodLink RX7 151 yX2_has, Cond.instanceMethod yX2_has, Cond.selects RX2 yX2_has yX2_has, Cond.initialized RX2, Cond.code yX2_has cX2_has 2 (some .boolean), Cond.fieldLink RX2 26 "FaxFilter$Picture" "rows" "I", Cond.methodLink RX7 189 yX2_lengthOfRun, Cond.instanceMethod yX2_lengthOfRun, Cond.selects RX2 yX2_lengthOfRun yX2_lengthOfRun, Cond.code yX2_lengthOfRun cX2_lengthOfRun 7 (some .int), Cond.fieldLink RX2 15 "FaxFilter$Picture" "columns" "I", Cond.methodLink RX2 61 yX2_nextOf, Cond.instanceMethod yX2_nextOf, Cond.selects RX2 yX2_nextOf yX2_nextOf, Cond.code yX2_nextOf cX2_nextOf 10 (some .int), Cond.methodLink RX2 43 Lib.Math.max.name, Cond.static Lib.Math.max.name, Cond.initialized "java/lang/Math", Cond.code Lib.Math.max.name Lib.Math.max.code 2 (some .int), Cond.constantLong RX2 41 (-1)]
def wsX7_run_r2 : List Cond := [Cond.methodLink RX2 48 Lib.Math.min.name, Cond.static Lib.Math.min.name, Cond.code Lib.Math.min.name Lib.Math.min.code 2 (some .int), Cond.methodLink RX2 37 yX2_wordOf, Cond.instanceMethod yX2_wordOf, Cond.selects RX2 yX2_wordOf yX2_wordOf, Cond.code yX2_wordOf cX2_wordOf 4 (some .long), Cond.fieldLink RX2 22 "FaxFilter$Picture" "words" "[J", Cond.methodLink RX2 33 yX2_indexOf, Cond.instanceMethod yX2_indexOf, Cond.selects RX2 yX2_indexOf yX2_indexOf, Cond.code yX2_indexOf cX2_indexOf 4 (some .int), Cond.fieldLink RX2 19 "FaxFilter$Picture" "wide" "I", Cond.methodLink RX2 51 yJ13_bitCount_95d88, Cond.static yJ13_bitCount_95d88, Cond.initialized RJ13, Cond.code yJ13_bitCount_95d88 cJ13_bitCount_95d88 2 (some .int), Cond.constantLong RJ13 314 (6148914691236517205), Cond.constantLong RJ13 316 (3689348814741910323), Cond.constantLong RJ13 318 (1085102592571150095)]
def wsX7_run : List Cond := .code yX7_run cX7_run 4 (some .int) :: ((wsX7_run_r1 ++ wsX7_run_r2) ++ wsX70 ++ wsJx000600 ++ wsX20 ++ (vx_atM "java/lang/ArrayIndexOutOfBoundsException" ["java/lang/IndexOutOfBoundsException", "java/lang/RuntimeException", "java/lang/Exception"]).filter goodWord)
def wsX7_runs_r1 : List Cond := [Cond.fieldLink RX7 30 "FaxFilter" "picture" "LFaxFilter$Picture;", Cond.classLink RX7 155 RJx00060, Cond.instantiable RJx00060 6, Cond.initialized RJx00060, Cond.methodLink RX7 151 yX2_has, Cond.instanceMethod yX2_has, Cond.selects RX2 yX2_has yX2_has, Cond.initialized RX2, Cond.code yX2_has cX2_has 2 (some .boolean), Cond.fieldLink RX2 26 "FaxFilter$Picture" "rows" "I", Cond.methodLink RX7 194 yX2_countRuns, Cond.instanceMethod yX2_countRuns, Cond.selects RX2 yX2_countRuns yX2_countRuns, Cond.code yX2_countRuns cX2_countRuns 5 (some .int), Cond.fieldLink RX2 15 "FaxFilter$Picture" "columns" "I", Cond.methodLink RX2 61 yX2_nextOf, Cond.instanceMethod yX2_nextOf, Cond.selects RX2 yX2_nextOf yX2_nextOf, Cond.code yX2_nextOf cX2_nextOf 10 (some .int), Cond.methodLink RX2 43 Lib.Math.max.name, Cond.static Lib.Math.max.name, Cond.initialized "java/lang/Math", Cond.code Lib.Math.max.name Lib.Math.max.code 2 (some .int), Cond.constantLong RX2 41 (-1)]
def wsX7_runs_r2 : List Cond := [Cond.methodLink RX2 48 Lib.Math.min.name, Cond.static Lib.Math.min.name, Cond.code Lib.Math.min.name Lib.Math.min.code 2 (some .int), Cond.methodLink RX2 37 yX2_wordOf, Cond.instanceMethod yX2_wordOf, Cond.selects RX2 yX2_wordOf yX2_wordOf, Cond.code yX2_wordOf cX2_wordOf 4 (some .long), Cond.fieldLink RX2 22 "FaxFilter$Picture" "words" "[J", Cond.methodLink RX2 33 yX2_indexOf, Cond.instanceMethod yX2_indexOf, Cond.selects RX2 yX2_indexOf yX2_indexOf, Cond.code yX2_indexOf cX2_indexOf 4 (some .int), Cond.fieldLink RX2 19 "FaxFilter$Picture" "wide" "I", Cond.methodLink RX2 51 yJ13_bitCount_95d88, Cond.static yJ13_bitCount_95d88, Cond.initialized RJ13, Cond.code yJ13_bitCount_95d88 cJ13_bitCount_95d88 2 (some .int), Cond.constantLong RJ13 314 (6148914691236517205), Cond.constantLong RJ13 316 (3689348814741910323), Cond.constantLong RJ13 318 (1085102592571150095)]
def wsX7_runs : List Cond := .code yX7_runs cX7_runs 2 (some .int) :: ((wsX7_runs_r1 ++ wsX7_runs_r2) ++ wsX70 ++ wsJx000600 ++ wsX20 ++ (vx_atM "java/lang/ArrayIndexOutOfBoundsException" ["java/lang/IndexOutOfBoundsException", "java/lang/RuntimeException", "java/lang/Exception"]).filter goodWord)
def wsX7_write_r1 : List Cond := [Cond.fieldLink RX7 76 "FaxFilter" "sender" "LFaxFilter$Sender;", Cond.fieldLink RX7 67 "FaxFilter" "written" "LFaxFilter$BitsOut;", Cond.methodLink RX7 197 yX4_sendAll, Cond.instanceMethod yX4_sendAll, Cond.selects RX4 yX4_sendAll yX4_sendAll, Cond.initialized RX4, Cond.code yX4_sendAll cX4_sendAll 3 none, Cond.fieldLink RX4 26 "FaxFilter$Sender" "out" "LFaxFilter$BitsOut;", Cond.fieldLink RX4 15 "FaxFilter$Sender" "picture" "LFaxFilter$Picture;", Cond.fieldLink RX4 35 "FaxFilter$Picture" "rows" "I", Cond.fieldLink RX4 9 "FaxFilter$Sender" "settings" "LFaxFilter$Settings;", Cond.fieldLink RX4 41 "FaxFilter$Settings" "kind" "I", Cond.methodLink RX4 30 yX1_restart, Cond.instanceMethod yX1_restart, Cond.selects RX1 yX1_restart yX1_restart, Cond.initialized RX1, Cond.code yX1_restart cX1_restart 1 none, Cond.fieldLink RX1 15 "FaxFilter$BitsOut" "bits" "I", Cond.methodLink RX4 46 yX4_sendStart, Cond.instanceMethod yX4_sendStart, Cond.selects RX4 yX4_sendStart yX4_sendStart, Cond.code yX4_sendStart cX4_sendStart 2 none, Cond.fieldLink RX4 64 "FaxFilter$Settings" "aligned" "Z", Cond.methodLink RX4 60 yX5_hasMarks]
def wsX7_write_r2 : List Cond := [Cond.instanceMethod yX5_hasMarks, Cond.selects RX5 yX5_hasMarks yX5_hasMarks, Cond.initialized RX5, Cond.code yX5_hasMarks cX5_hasMarks 1 (some .boolean), Cond.fieldLink RX5 9 "FaxFilter$Settings" "kind" "I", Cond.fieldLink RX5 15 "FaxFilter$Settings" "marks" "Z", Cond.methodLink RX4 68 yX1_alignFor, Cond.instanceMethod yX1_alignFor, Cond.selects RX1 yX1_alignFor yX1_alignFor, Cond.code yX1_alignFor cX1_alignFor 2 none, Cond.methodLink RX1 19 yX1_send, Cond.instanceMethod yX1_send, Cond.selects RX1 yX1_send yX1_send, Cond.code yX1_send cX1_send 7 none, Cond.fieldLink RX1 9 "FaxFilter$BitsOut" "bytes" "[B", Cond.methodLink RX4 71 yX4_sendMark, Cond.instanceMethod yX4_sendMark, Cond.selects RX4 yX4_sendMark yX4_sendMark, Cond.code yX4_sendMark cX4_sendMark 2 none, Cond.methodLink RX4 74 yX1_send, Cond.methodLink RX4 50 yX4_sendPlain, Cond.instanceMethod yX4_sendPlain, Cond.selects RX4 yX4_sendPlain yX4_sendPlain, Cond.code yX4_sendPlain cX4_sendPlain 6 none]
def wsX7_write_r3 : List Cond := [Cond.fieldLink RX4 78 "FaxFilter$Picture" "columns" "I", Cond.methodLink RX4 81 yX2_nextOf, Cond.instanceMethod yX2_nextOf, Cond.selects RX2 yX2_nextOf yX2_nextOf, Cond.initialized RX2, Cond.code yX2_nextOf cX2_nextOf 10 (some .int), Cond.methodLink RX2 43 Lib.Math.max.name, Cond.static Lib.Math.max.name, Cond.initialized "java/lang/Math", Cond.code Lib.Math.max.name Lib.Math.max.code 2 (some .int), Cond.fieldLink RX2 15 "FaxFilter$Picture" "columns" "I", Cond.constantLong RX2 41 (-1), Cond.methodLink RX2 48 Lib.Math.min.name, Cond.static Lib.Math.min.name, Cond.code Lib.Math.min.name Lib.Math.min.code 2 (some .int), Cond.methodLink RX2 37 yX2_wordOf, Cond.instanceMethod yX2_wordOf, Cond.selects RX2 yX2_wordOf yX2_wordOf, Cond.code yX2_wordOf cX2_wordOf 4 (some .long), Cond.fieldLink RX2 22 "FaxFilter$Picture" "words" "[J", Cond.methodLink RX2 33 yX2_indexOf, Cond.instanceMethod yX2_indexOf, Cond.selects RX2 yX2_indexOf yX2_indexOf, Cond.code yX2_indexOf cX2_indexOf 4 (some .int)]
def wsX7_write_r4 : List Cond := [Cond.fieldLink RX2 19 "FaxFilter$Picture" "wide" "I", Cond.methodLink RX2 51 yJ13_bitCount_95d88, Cond.static yJ13_bitCount_95d88, Cond.initialized RJ13, Cond.code yJ13_bitCount_95d88 cJ13_bitCount_95d88 2 (some .int), Cond.constantLong RJ13 314 (6148914691236517205), Cond.constantLong RJ13 316 (3689348814741910323), Cond.constantLong RJ13 318 (1085102592571150095), Cond.methodLink RX4 85 yX4_sendRun, Cond.instanceMethod yX4_sendRun, Cond.selects RX4 yX4_sendRun yX4_sendRun, Cond.code yX4_sendRun cX4_sendRun 5 none, Cond.fieldLink RX4 23 "FaxFilter$Sender" "darkTable" "LFaxFilter$Table;", Cond.fieldLink RX4 19 "FaxFilter$Sender" "whiteTable" "LFaxFilter$Table;", Cond.methodLink RX4 102 yX6_slotOfMake, Cond.static yX6_slotOfMake, Cond.initialized RX6, Cond.code yX6_slotOfMake cX6_slotOfMake 1 (some .int), Cond.methodLink RX4 108 yX6_codeOf, Cond.instanceMethod yX6_codeOf, Cond.selects RX6 yX6_codeOf yX6_codeOf, Cond.code yX6_codeOf cX6_codeOf 2 (some .int), Cond.fieldLink RX6 15 "FaxFilter$Table" "codes" "[I", Cond.methodLink RX4 111 yX6_bitsOf]
def wsX7_write_r5 : List Cond := [Cond.instanceMethod yX6_bitsOf, Cond.selects RX6 yX6_bitsOf yX6_bitsOf, Cond.code yX6_bitsOf cX6_bitsOf 2 (some .int), Cond.fieldLink RX6 11 "FaxFilter$Table" "bits" "[I", Cond.methodLink RX4 54 yX4_sendDrawn, Cond.instanceMethod yX4_sendDrawn, Cond.selects RX4 yX4_sendDrawn yX4_sendDrawn, Cond.code yX4_sendDrawn cX4_sendDrawn 9 none, Cond.methodLink RX4 89 yX2_changeTo, Cond.instanceMethod yX2_changeTo, Cond.selects RX2 yX2_changeTo yX2_changeTo, Cond.code yX2_changeTo cX2_changeTo 5 (some .int), Cond.methodLink RX2 57 yX2_isDark, Cond.instanceMethod yX2_isDark, Cond.selects RX2 yX2_isDark yX2_isDark, Cond.code yX2_isDark cX2_isDark 3 (some .boolean), Cond.methodLink RX2 61 yX2_nextOf, Cond.methodLink RX4 92 yX4_sendWay, Cond.instanceMethod yX4_sendWay, Cond.selects RX4 yX4_sendWay yX4_sendWay, Cond.code yX4_sendWay cX4_sendWay 2 none, Cond.methodLink RX4 57 yX4_sendEnd, Cond.instanceMethod yX4_sendEnd, Cond.selects RX4 yX4_sendEnd yX4_sendEnd]
def wsX7_write_r6 : List Cond := [Cond.code yX4_sendEnd cX4_sendEnd 3 none, Cond.methodLink RX7 98 yX1_size, Cond.instanceMethod yX1_size, Cond.selects RX1 yX1_size yX1_size, Cond.code yX1_size cX1_size 1 (some .int)]
def wsX7_write : List Cond := .code yX7_write cX7_write 1 (some .int) :: ((wsX7_write_r1 ++ (wsX7_write_r2 ++ (wsX7_write_r3 ++ (wsX7_write_r4 ++ (wsX7_write_r5 ++ wsX7_write_r6))))) ++ wsX70 ++ wsX40 ++ wsX20 ++ wsX50 ++ wsX10 ++ wsX60 ++ (vx_atM "java/lang/ArrayIndexOutOfBoundsException" ["java/lang/IndexOutOfBoundsException", "java/lang/RuntimeException", "java/lang/Exception"]).filter goodWord)
def wsX7_octet : List Cond := .code yX7_octet cX7_octet 2 (some .int) :: ([.fieldLink RX7 67 "FaxFilter" "written" "LFaxFilter$BitsOut;", .classLink RX7 155 RJx00060, .instantiable RJx00060 6, .initialized RJx00060, .methodLink RX7 98 yX1_size, .instanceMethod yX1_size, .selects RX1 yX1_size yX1_size, .initialized RX1, .code yX1_size cX1_size 1 (some .int), .fieldLink RX1 15 "FaxFilter$BitsOut" "bits" "I", .methodLink RX7 135 yX1_byteAt, .instanceMethod yX1_byteAt, .selects RX1 yX1_byteAt yX1_byteAt, .code yX1_byteAt cX1_byteAt 2 (some .int), .fieldLink RX1 9 "FaxFilter$BitsOut" "bytes" "[B"] ++ wsX70 ++ wsJx000600 ++ wsX10 ++ (vx_atM "java/lang/ArrayIndexOutOfBoundsException" ["java/lang/IndexOutOfBoundsException", "java/lang/RuntimeException", "java/lang/Exception"]).filter goodWord)
def wsX7_code : List Cond := .code yX7_code cX7_code 5 (some .int) :: ([.classLink RX7 107 "java/lang/IllegalArgumentException", .initialized "java/lang/IllegalArgumentException", .fieldLink RX7 50 "FaxFilter" "darkTable" "LFaxFilter$Table;", .fieldLink RX7 43 "FaxFilter" "whiteTable" "LFaxFilter$Table;", .constant RX7 210 (65536), .methodLink RX7 202 yX6_slotOf, .static yX6_slotOf, .initialized RX6, .code yX6_slotOf cX6_slotOf 1 (some .int), .methodLink RX6 24 yX6_slotOfMake, .static yX6_slotOfMake, .code yX6_slotOfMake cX6_slotOfMake 1 (some .int), .methodLink RX7 207 yX6_bitsOf, .instanceMethod yX6_bitsOf, .selects RX6 yX6_bitsOf yX6_bitsOf, .code yX6_bitsOf cX6_bitsOf 2 (some .int), .fieldLink RX6 11 "FaxFilter$Table" "bits" "[I", .methodLink RX7 211 yX6_codeOf, .instanceMethod yX6_codeOf, .selects RX6 yX6_codeOf yX6_codeOf, .code yX6_codeOf cX6_codeOf 2 (some .int), .fieldLink RX6 15 "FaxFilter$Table" "codes" "[I"] ++ wsX70 ++ wsX60 ++ (vx_atS RX7 111 "java/lang/IllegalArgumentException" ["java/lang/RuntimeException", "java/lang/Exception"]).filter goodWord ++ (vx_atM "java/lang/ArrayIndexOutOfBoundsException" ["java/lang/IndexOutOfBoundsException", "java/lang/RuntimeException", "java/lang/Exception"]).filter goodWord)
def wsX8_isRun : List Cond := .code yX8_isRun cX8_isRun 1 (some .boolean) :: ([])
def wsX8_in : List Cond := .code yX8_in cX8_in 3 (some .boolean) :: ([])
def wsX8_bitsOf : List Cond := .code yX8_bitsOf cX8_bitsOf 2 (some .int) :: ([.methodLink RX8 47 yX8_in, .static yX8_in, .initialized RX8, .code yX8_in cX8_in 3 (some .boolean)])
def wsX8_makeTable : List Cond := .code yX8_makeTable cX8_makeTable 5 none :: ([.fieldLink RX8 7 "FaxFilterModel" "code" "[I", .fieldLink RX8 13 "FaxFilterModel" "bits" "[I", .methodLink RX8 51 yX8_isRun, .static yX8_isRun, .initialized RX8, .code yX8_isRun cX8_isRun 1 (some .boolean), .methodLink RX8 55 yX8_bitsOf, .static yX8_bitsOf, .code yX8_bitsOf cX8_bitsOf 2 (some .int), .methodLink RX8 47 yX8_in, .static yX8_in, .code yX8_in cX8_in 3 (some .boolean)] ++ wsX80 ++ (vx_atM "java/lang/ArrayIndexOutOfBoundsException" ["java/lang/IndexOutOfBoundsException", "java/lang/RuntimeException", "java/lang/Exception"]).filter goodWord)
def wsX8_init_r1 : List Cond := [Cond.methodLink RX8 1 objectInit, Cond.instanceMethod objectInit, Cond.code objectInit ⟨#[0xb1]⟩ 1 none, Cond.arrayClass .int, Cond.fieldLink RX8 7 "FaxFilterModel" "code" "[I", Cond.fieldLink RX8 13 "FaxFilterModel" "bits" "[I", Cond.arrayClass .boolean, Cond.fieldLink RX8 16 "FaxFilterModel" "settings" "[Z", Cond.fieldLink RX8 20 "FaxFilterModel" "dark" "[Z", Cond.fieldLink RX8 23 "FaxFilterModel" "states" "[I", Cond.fieldLink RX8 26 "FaxFilterModel" "bytes" "[I", Cond.constant RX8 29 (140000), Cond.fieldLink RX8 30 "FaxFilterModel" "out" "[Z", Cond.fieldLink RX8 33 "FaxFilterModel" "kind" "I", Cond.fieldLink RX8 37 "FaxFilterModel" "columns" "I", Cond.methodLink RX8 40 yX8_makeTable, Cond.instanceMethod yX8_makeTable, Cond.selects RX8 yX8_makeTable yX8_makeTable, Cond.initialized RX8, Cond.code yX8_makeTable cX8_makeTable 5 none, Cond.methodLink RX8 51 yX8_isRun, Cond.static yX8_isRun, Cond.code yX8_isRun cX8_isRun 1 (some .boolean), Cond.methodLink RX8 55 yX8_bitsOf]
def wsX8_init_r2 : List Cond := [Cond.static yX8_bitsOf, Cond.code yX8_bitsOf cX8_bitsOf 2 (some .int), Cond.methodLink RX8 47 yX8_in, Cond.static yX8_in, Cond.code yX8_in cX8_in 3 (some .boolean)]
def wsX8_init : List Cond := .code yX8_init cX8_init 3 none :: ((wsX8_init_r1 ++ wsX8_init_r2) ++ wsX80 ++ (vx_atM "java/lang/ArrayIndexOutOfBoundsException" ["java/lang/IndexOutOfBoundsException", "java/lang/RuntimeException", "java/lang/Exception"]).filter goodWord)
def wsX8_thrown : List Cond := .code yX8_thrown cX8_thrown 1 (some .int) :: ([.fieldLink RX8 44 "FaxFilterModel" "thrown" "I"] ++ wsX80)
def wsX8_code : List Cond := .code yX8_code cX8_code 4 (some .int) :: ([.fieldLink RX8 44 "FaxFilterModel" "thrown" "I", .fieldLink RX8 7 "FaxFilterModel" "code" "[I", .constant RX8 59 (65536), .fieldLink RX8 13 "FaxFilterModel" "bits" "[I", .methodLink RX8 51 yX8_isRun, .static yX8_isRun, .initialized RX8, .code yX8_isRun cX8_isRun 1 (some .boolean)] ++ wsX80 ++ (vx_atM "java/lang/ArrayIndexOutOfBoundsException" ["java/lang/IndexOutOfBoundsException", "java/lang/RuntimeException", "java/lang/Exception"]).filter goodWord)
def wsX8_told : List Cond := .code yX8_told cX8_told 2 (some .int) :: ([.fieldLink RX8 44 "FaxFilterModel" "thrown" "I", .fieldLink RX8 33 "FaxFilterModel" "kind" "I", .fieldLink RX8 37 "FaxFilterModel" "columns" "I", .fieldLink RX8 60 "FaxFilterModel" "rows" "I", .fieldLink RX8 63 "FaxFilterModel" "collected" "I", .fieldLink RX8 66 "FaxFilterModel" "written" "I", .fieldLink RX8 69 "FaxFilterModel" "place" "I", .fieldLink RX8 72 "FaxFilterModel" "damaged" "I"] ++ wsX80)
def wsX8_setting : List Cond := .code yX8_setting cX8_setting 3 none :: ([.fieldLink RX8 44 "FaxFilterModel" "thrown" "I", .fieldLink RX8 16 "FaxFilterModel" "settings" "[Z"] ++ wsX80 ++ (vx_atM "java/lang/ArrayIndexOutOfBoundsException" ["java/lang/IndexOutOfBoundsException", "java/lang/RuntimeException", "java/lang/Exception"]).filter goodWord)
def wsX8_add : List Cond := .code yX8_add cX8_add 5 (some .boolean) :: ([.fieldLink RX8 44 "FaxFilterModel" "thrown" "I", .fieldLink RX8 63 "FaxFilterModel" "collected" "I", .fieldLink RX8 26 "FaxFilterModel" "bytes" "[I", .constantLong RX8 75 (255)] ++ wsX80 ++ (vx_atM "java/lang/ArrayIndexOutOfBoundsException" ["java/lang/IndexOutOfBoundsException", "java/lang/RuntimeException", "java/lang/Exception"]).filter goodWord)
def wsX8_byteOf : List Cond := .code yX8_byteOf cX8_byteOf 4 (some .int) :: ([.fieldLink RX8 30 "FaxFilterModel" "out" "[Z"] ++ wsX80 ++ (vx_atM "java/lang/ArrayIndexOutOfBoundsException" ["java/lang/IndexOutOfBoundsException", "java/lang/RuntimeException", "java/lang/Exception"]).filter goodWord)
def wsX8_take : List Cond := .code yX8_take cX8_take 2 (some .int) :: ([.fieldLink RX8 44 "FaxFilterModel" "thrown" "I", .fieldLink RX8 66 "FaxFilterModel" "written" "I", .fieldLink RX8 63 "FaxFilterModel" "collected" "I", .fieldLink RX8 26 "FaxFilterModel" "bytes" "[I", .methodLink RX8 77 yX8_byteOf, .instanceMethod yX8_byteOf, .selects RX8 yX8_byteOf yX8_byteOf, .initialized RX8, .code yX8_byteOf cX8_byteOf 4 (some .int), .fieldLink RX8 30 "FaxFilterModel" "out" "[Z"] ++ wsX80 ++ (vx_atM "java/lang/ArrayIndexOutOfBoundsException" ["java/lang/IndexOutOfBoundsException", "java/lang/RuntimeException", "java/lang/Exception"]).filter goodWord)
def wsX8_drop : List Cond := .code yX8_drop cX8_drop 1 none :: ([.fieldLink RX8 44 "FaxFilterModel" "thrown" "I", .fieldLink RX8 63 "FaxFilterModel" "collected" "I"] ++ wsX80)
def wsX8_isRow : List Cond := .code yX8_isRow cX8_isRow 2 (some .boolean) :: ([.fieldLink RX8 60 "FaxFilterModel" "rows" "I"] ++ wsX80)
def wsX8_state : List Cond := .code yX8_state cX8_state 2 (some .int) :: ([.fieldLink RX8 44 "FaxFilterModel" "thrown" "I", .fieldLink RX8 23 "FaxFilterModel" "states" "[I", .methodLink RX8 81 yX8_isRow, .instanceMethod yX8_isRow, .selects RX8 yX8_isRow yX8_isRow, .initialized RX8, .code yX8_isRow cX8_isRow 2 (some .boolean), .fieldLink RX8 60 "FaxFilterModel" "rows" "I"] ++ wsX80 ++ (vx_atM "java/lang/ArrayIndexOutOfBoundsException" ["java/lang/IndexOutOfBoundsException", "java/lang/RuntimeException", "java/lang/Exception"]).filter goodWord)
def wsX8_paint : List Cond := .code yX8_paint cX8_paint 6 none :: ([.fieldLink RX8 20 "FaxFilterModel" "dark" "[Z"] ++ wsX80 ++ (vx_atM "java/lang/ArrayIndexOutOfBoundsException" ["java/lang/IndexOutOfBoundsException", "java/lang/RuntimeException", "java/lang/Exception"]).filter goodWord)
def wsX8_row : List Cond := .code yX8_row cX8_row 1 (some .int) :: ([.fieldLink RX8 60 "FaxFilterModel" "rows" "I", .fieldLink RX8 44 "FaxFilterModel" "thrown" "I", .fieldLink RX8 23 "FaxFilterModel" "states" "[I", .methodLink RX8 84 yX8_paint, .instanceMethod yX8_paint, .selects RX8 yX8_paint yX8_paint, .initialized RX8, .code yX8_paint cX8_paint 6 none, .fieldLink RX8 20 "FaxFilterModel" "dark" "[Z"] ++ wsX80 ++ (vx_atM "java/lang/ArrayIndexOutOfBoundsException" ["java/lang/IndexOutOfBoundsException", "java/lang/RuntimeException", "java/lang/Exception"]).filter goodWord)
def wsX8_clear : List Cond := .code yX8_clear cX8_clear 1 none :: ([.fieldLink RX8 44 "FaxFilterModel" "thrown" "I", .fieldLink RX8 60 "FaxFilterModel" "rows" "I"] ++ wsX80)
def wsX8_put : List Cond := .code yX8_put cX8_put 5 none :: ([.fieldLink RX8 37 "FaxFilterModel" "columns" "I", .fieldLink RX8 44 "FaxFilterModel" "thrown" "I", .fieldLink RX8 23 "FaxFilterModel" "states" "[I", .methodLink RX8 81 yX8_isRow, .instanceMethod yX8_isRow, .selects RX8 yX8_isRow yX8_isRow, .initialized RX8, .code yX8_isRow cX8_isRow 2 (some .boolean), .fieldLink RX8 60 "FaxFilterModel" "rows" "I", .methodLink RX8 84 yX8_paint, .instanceMethod yX8_paint, .selects RX8 yX8_paint yX8_paint, .code yX8_paint cX8_paint 6 none, .fieldLink RX8 20 "FaxFilterModel" "dark" "[Z"] ++ wsX80 ++ (vx_atM "java/lang/ArrayIndexOutOfBoundsException" ["java/lang/IndexOutOfBoundsException", "java/lang/RuntimeException", "java/lang/Exception"]).filter goodWord)
def wsX8_bit : List Cond := .code yX8_bit cX8_bit 3 (some .int) :: ([.fieldLink RX8 37 "FaxFilterModel" "columns" "I", .fieldLink RX8 44 "FaxFilterModel" "thrown" "I", .fieldLink RX8 20 "FaxFilterModel" "dark" "[Z", .fieldLink RX8 16 "FaxFilterModel" "settings" "[Z", .methodLink RX8 81 yX8_isRow, .instanceMethod yX8_isRow, .selects RX8 yX8_isRow yX8_isRow, .initialized RX8, .code yX8_isRow cX8_isRow 2 (some .boolean), .fieldLink RX8 60 "FaxFilterModel" "rows" "I"] ++ wsX80 ++ (vx_atM "java/lang/ArrayIndexOutOfBoundsException" ["java/lang/IndexOutOfBoundsException", "java/lang/RuntimeException", "java/lang/Exception"]).filter goodWord)
def wsX8_at : List Cond := .code yX8_at cX8_at 3 (some .boolean) :: ([.fieldLink RX8 20 "FaxFilterModel" "dark" "[Z"] ++ wsX80 ++ (vx_atM "java/lang/ArrayIndexOutOfBoundsException" ["java/lang/IndexOutOfBoundsException", "java/lang/RuntimeException", "java/lang/Exception"]).filter goodWord)
def wsX8_isChange : List Cond := .code yX8_isChange cX8_isChange 3 (some .boolean) :: ([.methodLink RX8 88 yX8_at, .instanceMethod yX8_at, .selects RX8 yX8_at yX8_at, .initialized RX8, .code yX8_at cX8_at 3 (some .boolean), .fieldLink RX8 20 "FaxFilterModel" "dark" "[Z"] ++ wsX80 ++ (vx_atM "java/lang/ArrayIndexOutOfBoundsException" ["java/lang/IndexOutOfBoundsException", "java/lang/RuntimeException", "java/lang/Exception"]).filter goodWord)
def wsX8_runsOf : List Cond := .code yX8_runsOf cX8_runsOf 4 (some .int) :: ([.fieldLink RX8 37 "FaxFilterModel" "columns" "I", .methodLink RX8 92 yX8_isChange, .instanceMethod yX8_isChange, .selects RX8 yX8_isChange yX8_isChange, .initialized RX8, .code yX8_isChange cX8_isChange 3 (some .boolean), .methodLink RX8 88 yX8_at, .instanceMethod yX8_at, .selects RX8 yX8_at yX8_at, .code yX8_at cX8_at 3 (some .boolean), .fieldLink RX8 20 "FaxFilterModel" "dark" "[Z"] ++ wsX80 ++ (vx_atM "java/lang/ArrayIndexOutOfBoundsException" ["java/lang/IndexOutOfBoundsException", "java/lang/RuntimeException", "java/lang/Exception"]).filter goodWord)
def wsX8_runs : List Cond := .code yX8_runs cX8_runs 2 (some .int) :: ([.fieldLink RX8 44 "FaxFilterModel" "thrown" "I", .methodLink RX8 81 yX8_isRow, .instanceMethod yX8_isRow, .selects RX8 yX8_isRow yX8_isRow, .initialized RX8, .code yX8_isRow cX8_isRow 2 (some .boolean), .fieldLink RX8 60 "FaxFilterModel" "rows" "I", .methodLink RX8 95 yX8_runsOf, .instanceMethod yX8_runsOf, .selects RX8 yX8_runsOf yX8_runsOf, .code yX8_runsOf cX8_runsOf 4 (some .int), .fieldLink RX8 37 "FaxFilterModel" "columns" "I", .methodLink RX8 92 yX8_isChange, .instanceMethod yX8_isChange, .selects RX8 yX8_isChange yX8_isChange, .code yX8_isChange cX8_isChange 3 (some .boolean), .methodLink RX8 88 yX8_at, .instanceMethod yX8_at, .selects RX8 yX8_at yX8_at, .code yX8_at cX8_at 3 (some .boolean), .fieldLink RX8 20 "FaxFilterModel" "dark" "[Z"] ++ wsX80 ++ (vx_atM "java/lang/ArrayIndexOutOfBoundsException" ["java/lang/IndexOutOfBoundsException", "java/lang/RuntimeException", "java/lang/Exception"]).filter goodWord)
def wsX8_run : List Cond := .code yX8_run cX8_run 6 (some .int) :: ([.fieldLink RX8 44 "FaxFilterModel" "thrown" "I", .fieldLink RX8 37 "FaxFilterModel" "columns" "I", .methodLink RX8 81 yX8_isRow, .instanceMethod yX8_isRow, .selects RX8 yX8_isRow yX8_isRow, .initialized RX8, .code yX8_isRow cX8_isRow 2 (some .boolean), .fieldLink RX8 60 "FaxFilterModel" "rows" "I", .methodLink RX8 95 yX8_runsOf, .instanceMethod yX8_runsOf, .selects RX8 yX8_runsOf yX8_runsOf, .code yX8_runsOf cX8_runsOf 4 (some .int), .methodLink RX8 92 yX8_isChange, .instanceMethod yX8_isChange, .selects RX8 yX8_isChange yX8_isChange, .code yX8_isChange cX8_isChange 3 (some .boolean), .methodLink RX8 88 yX8_at, .instanceMethod yX8_at, .selects RX8 yX8_at yX8_at, .code yX8_at cX8_at 3 (some .boolean), .fieldLink RX8 20 "FaxFilterModel" "dark" "[Z"] ++ wsX80 ++ (vx_atM "java/lang/ArrayIndexOutOfBoundsException" ["java/lang/IndexOutOfBoundsException", "java/lang/RuntimeException", "java/lang/Exception"]).filter goodWord)
def wsX8_putBit : List Cond := .code yX8_putBit cX8_putBit 2 none :: ([.fieldLink RX8 30 "FaxFilterModel" "out" "[Z", .fieldLink RX8 66 "FaxFilterModel" "written" "I"] ++ wsX80 ++ (vx_atM "java/lang/ArrayIndexOutOfBoundsException" ["java/lang/IndexOutOfBoundsException", "java/lang/RuntimeException", "java/lang/Exception"]).filter goodWord)
def wsX8_putBits : List Cond := .code yX8_putBits cX8_putBits 4 none :: ([.methodLink RX8 98 yX8_putBit, .instanceMethod yX8_putBit, .selects RX8 yX8_putBit yX8_putBit, .initialized RX8, .code yX8_putBit cX8_putBit 2 none, .fieldLink RX8 30 "FaxFilterModel" "out" "[Z", .fieldLink RX8 66 "FaxFilterModel" "written" "I"] ++ wsX80 ++ (vx_atM "java/lang/ArrayIndexOutOfBoundsException" ["java/lang/IndexOutOfBoundsException", "java/lang/RuntimeException", "java/lang/Exception"]).filter goodWord)
def wsX8_putCode : List Cond := .code yX8_putCode cX8_putCode 3 none :: ([.fieldLink RX8 7 "FaxFilterModel" "code" "[I", .fieldLink RX8 13 "FaxFilterModel" "bits" "[I", .methodLink RX8 102 yX8_putBits, .instanceMethod yX8_putBits, .selects RX8 yX8_putBits yX8_putBits, .initialized RX8, .code yX8_putBits cX8_putBits 4 none, .methodLink RX8 98 yX8_putBit, .instanceMethod yX8_putBit, .selects RX8 yX8_putBit yX8_putBit, .code yX8_putBit cX8_putBit 2 none, .fieldLink RX8 30 "FaxFilterModel" "out" "[Z", .fieldLink RX8 66 "FaxFilterModel" "written" "I"] ++ wsX80 ++ (vx_atM "java/lang/ArrayIndexOutOfBoundsException" ["java/lang/IndexOutOfBoundsException", "java/lang/RuntimeException", "java/lang/Exception"]).filter goodWord)
def wsX8_putRun : List Cond := .code yX8_putRun cX8_putRun 4 none :: ([.methodLink RX8 106 yX8_putCode, .instanceMethod yX8_putCode, .selects RX8 yX8_putCode yX8_putCode, .initialized RX8, .code yX8_putCode cX8_putCode 3 none, .fieldLink RX8 7 "FaxFilterModel" "code" "[I", .fieldLink RX8 13 "FaxFilterModel" "bits" "[I", .methodLink RX8 102 yX8_putBits, .instanceMethod yX8_putBits, .selects RX8 yX8_putBits yX8_putBits, .code yX8_putBits cX8_putBits 4 none, .methodLink RX8 98 yX8_putBit, .instanceMethod yX8_putBit, .selects RX8 yX8_putBit yX8_putBit, .code yX8_putBit cX8_putBit 2 none, .fieldLink RX8 30 "FaxFilterModel" "out" "[Z", .fieldLink RX8 66 "FaxFilterModel" "written" "I"] ++ wsX80 ++ (vx_atM "java/lang/ArrayIndexOutOfBoundsException" ["java/lang/IndexOutOfBoundsException", "java/lang/RuntimeException", "java/lang/Exception"]).filter goodWord)
def wsX8_fill : List Cond := .code yX8_fill cX8_fill 2 none :: ([.fieldLink RX8 66 "FaxFilterModel" "written" "I", .methodLink RX8 98 yX8_putBit, .instanceMethod yX8_putBit, .selects RX8 yX8_putBit yX8_putBit, .initialized RX8, .code yX8_putBit cX8_putBit 2 none, .fieldLink RX8 30 "FaxFilterModel" "out" "[Z"] ++ wsX80 ++ (vx_atM "java/lang/ArrayIndexOutOfBoundsException" ["java/lang/IndexOutOfBoundsException", "java/lang/RuntimeException", "java/lang/Exception"]).filter goodWord)
def wsX8_hasMarks : List Cond := .code yX8_hasMarks cX8_hasMarks 1 (some .boolean) :: ([.fieldLink RX8 33 "FaxFilterModel" "kind" "I", .fieldLink RX8 16 "FaxFilterModel" "settings" "[Z"] ++ wsX80 ++ (vx_atM "java/lang/ArrayIndexOutOfBoundsException" ["java/lang/IndexOutOfBoundsException", "java/lang/RuntimeException", "java/lang/Exception"]).filter goodWord)
def wsX8_isPlain : List Cond := .code yX8_isPlain cX8_isPlain 2 (some .boolean) :: ([.fieldLink RX8 33 "FaxFilterModel" "kind" "I"] ++ wsX80)
def wsX8_otherFrom : List Cond := .code yX8_otherFrom cX8_otherFrom 5 (some .int) :: ([.fieldLink RX8 37 "FaxFilterModel" "columns" "I", .methodLink RX8 88 yX8_at, .instanceMethod yX8_at, .selects RX8 yX8_at yX8_at, .initialized RX8, .code yX8_at cX8_at 3 (some .boolean), .fieldLink RX8 20 "FaxFilterModel" "dark" "[Z"] ++ wsX80 ++ (vx_atM "java/lang/ArrayIndexOutOfBoundsException" ["java/lang/IndexOutOfBoundsException", "java/lang/RuntimeException", "java/lang/Exception"]).filter goodWord)
def wsX8_writePlain_r1 : List Cond := [Cond.fieldLink RX8 37 "FaxFilterModel" "columns" "I", Cond.methodLink RX8 109 yX8_otherFrom, Cond.instanceMethod yX8_otherFrom, Cond.selects RX8 yX8_otherFrom yX8_otherFrom, Cond.initialized RX8, Cond.code yX8_otherFrom cX8_otherFrom 5 (some .int), Cond.methodLink RX8 88 yX8_at, Cond.instanceMethod yX8_at, Cond.selects RX8 yX8_at yX8_at, Cond.code yX8_at cX8_at 3 (some .boolean), Cond.fieldLink RX8 20 "FaxFilterModel" "dark" "[Z", Cond.methodLink RX8 113 yX8_putRun, Cond.instanceMethod yX8_putRun, Cond.selects RX8 yX8_putRun yX8_putRun, Cond.code yX8_putRun cX8_putRun 4 none, Cond.methodLink RX8 106 yX8_putCode, Cond.instanceMethod yX8_putCode, Cond.selects RX8 yX8_putCode yX8_putCode, Cond.code yX8_putCode cX8_putCode 3 none, Cond.fieldLink RX8 7 "FaxFilterModel" "code" "[I", Cond.fieldLink RX8 13 "FaxFilterModel" "bits" "[I", Cond.methodLink RX8 102 yX8_putBits, Cond.instanceMethod yX8_putBits, Cond.selects RX8 yX8_putBits yX8_putBits]
def wsX8_writePlain_r2 : List Cond := [Cond.code yX8_putBits cX8_putBits 4 none, Cond.methodLink RX8 98 yX8_putBit, Cond.instanceMethod yX8_putBit, Cond.selects RX8 yX8_putBit yX8_putBit, Cond.code yX8_putBit cX8_putBit 2 none, Cond.fieldLink RX8 30 "FaxFilterModel" "out" "[Z", Cond.fieldLink RX8 66 "FaxFilterModel" "written" "I"]
def wsX8_writePlain : List Cond := .code yX8_writePlain cX8_writePlain 5 none :: ((wsX8_writePlain_r1 ++ wsX8_writePlain_r2) ++ wsX80 ++ (vx_atM "java/lang/ArrayIndexOutOfBoundsException" ["java/lang/IndexOutOfBoundsException", "java/lang/RuntimeException", "java/lang/Exception"]).filter goodWord)
def wsX8_look : List Cond := .code yX8_look cX8_look 2 none :: ([.fieldLink RX8 117 "FaxFilterModel" "isFirst" "Z", .fieldLink RX8 121 "FaxFilterModel" "a" "I", .fieldLink RX8 124 "FaxFilterModel" "b" "I", .fieldLink RX8 37 "FaxFilterModel" "columns" "I", .fieldLink RX8 127 "FaxFilterModel" "isDark" "Z", .fieldLink RX8 130 "FaxFilterModel" "c" "I", .methodLink RX8 92 yX8_isChange, .instanceMethod yX8_isChange, .selects RX8 yX8_isChange yX8_isChange, .initialized RX8, .code yX8_isChange cX8_isChange 3 (some .boolean), .methodLink RX8 88 yX8_at, .instanceMethod yX8_at, .selects RX8 yX8_at yX8_at, .code yX8_at cX8_at 3 (some .boolean), .fieldLink RX8 20 "FaxFilterModel" "dark" "[Z"] ++ wsX80 ++ (vx_atM "java/lang/ArrayIndexOutOfBoundsException" ["java/lang/IndexOutOfBoundsException", "java/lang/RuntimeException", "java/lang/Exception"]).filter goodWord)
def wsX8_putStep : List Cond := .code yX8_putStep cX8_putStep 2 none :: ([.methodLink RX8 102 yX8_putBits, .instanceMethod yX8_putBits, .selects RX8 yX8_putBits yX8_putBits, .initialized RX8, .code yX8_putBits cX8_putBits 4 none, .methodLink RX8 98 yX8_putBit, .instanceMethod yX8_putBit, .selects RX8 yX8_putBit yX8_putBit, .code yX8_putBit cX8_putBit 2 none, .fieldLink RX8 30 "FaxFilterModel" "out" "[Z", .fieldLink RX8 66 "FaxFilterModel" "written" "I"] ++ wsX80 ++ (vx_atM "java/lang/ArrayIndexOutOfBoundsException" ["java/lang/IndexOutOfBoundsException", "java/lang/RuntimeException", "java/lang/Exception"]).filter goodWord)
def wsX8_begin : List Cond := .code yX8_begin cX8_begin 1 none :: ([.fieldLink RX8 121 "FaxFilterModel" "a" "I", .fieldLink RX8 127 "FaxFilterModel" "isDark" "Z", .fieldLink RX8 117 "FaxFilterModel" "isFirst" "Z"] ++ wsX80)
def wsX8_writeDrawn_r1 : List Cond := [Cond.fieldLink RX8 121 "FaxFilterModel" "a" "I", Cond.fieldLink RX8 37 "FaxFilterModel" "columns" "I", Cond.fieldLink RX8 127 "FaxFilterModel" "isDark" "Z", Cond.fieldLink RX8 130 "FaxFilterModel" "c" "I", Cond.fieldLink RX8 124 "FaxFilterModel" "b" "I", Cond.fieldLink RX8 117 "FaxFilterModel" "isFirst" "Z", Cond.methodLink RX8 133 yX8_begin, Cond.instanceMethod yX8_begin, Cond.selects RX8 yX8_begin yX8_begin, Cond.initialized RX8, Cond.code yX8_begin cX8_begin 1 none, Cond.methodLink RX8 136 yX8_look, Cond.instanceMethod yX8_look, Cond.selects RX8 yX8_look yX8_look, Cond.code yX8_look cX8_look 2 none, Cond.methodLink RX8 92 yX8_isChange, Cond.instanceMethod yX8_isChange, Cond.selects RX8 yX8_isChange yX8_isChange, Cond.code yX8_isChange cX8_isChange 3 (some .boolean), Cond.methodLink RX8 88 yX8_at, Cond.instanceMethod yX8_at, Cond.selects RX8 yX8_at yX8_at, Cond.code yX8_at cX8_at 3 (some .boolean), Cond.fieldLink RX8 20 "FaxFilterModel" "dark" "[Z"]
def wsX8_writeDrawn_r2 : List Cond := [Cond.methodLink RX8 109 yX8_otherFrom, Cond.instanceMethod yX8_otherFrom, Cond.selects RX8 yX8_otherFrom yX8_otherFrom, Cond.code yX8_otherFrom cX8_otherFrom 5 (some .int), Cond.methodLink RX8 102 yX8_putBits, Cond.instanceMethod yX8_putBits, Cond.selects RX8 yX8_putBits yX8_putBits, Cond.code yX8_putBits cX8_putBits 4 none, Cond.methodLink RX8 98 yX8_putBit, Cond.instanceMethod yX8_putBit, Cond.selects RX8 yX8_putBit yX8_putBit, Cond.code yX8_putBit cX8_putBit 2 none, Cond.fieldLink RX8 30 "FaxFilterModel" "out" "[Z", Cond.fieldLink RX8 66 "FaxFilterModel" "written" "I", Cond.methodLink RX8 139 yX8_putStep, Cond.instanceMethod yX8_putStep, Cond.selects RX8 yX8_putStep yX8_putStep, Cond.code yX8_putStep cX8_putStep 2 none, Cond.methodLink RX8 113 yX8_putRun, Cond.instanceMethod yX8_putRun, Cond.selects RX8 yX8_putRun yX8_putRun, Cond.code yX8_putRun cX8_putRun 4 none, Cond.methodLink RX8 106 yX8_putCode, Cond.instanceMethod yX8_putCode]
def wsX8_writeDrawn_r3 : List Cond := [Cond.selects RX8 yX8_putCode yX8_putCode, Cond.code yX8_putCode cX8_putCode 3 none, Cond.fieldLink RX8 7 "FaxFilterModel" "code" "[I", Cond.fieldLink RX8 13 "FaxFilterModel" "bits" "[I"]
def wsX8_writeDrawn : List Cond := .code yX8_writeDrawn cX8_writeDrawn 4 none :: ((wsX8_writeDrawn_r1 ++ (wsX8_writeDrawn_r2 ++ wsX8_writeDrawn_r3)) ++ wsX80 ++ (vx_atM "java/lang/ArrayIndexOutOfBoundsException" ["java/lang/IndexOutOfBoundsException", "java/lang/RuntimeException", "java/lang/Exception"]).filter goodWord)
def wsX8_putMark : List Cond := .code yX8_putMark cX8_putMark 1 none :: ([.methodLink RX8 102 yX8_putBits, .instanceMethod yX8_putBits, .selects RX8 yX8_putBits yX8_putBits, .initialized RX8, .code yX8_putBits cX8_putBits 4 none, .methodLink RX8 98 yX8_putBit, .instanceMethod yX8_putBit, .selects RX8 yX8_putBit yX8_putBit, .code yX8_putBit cX8_putBit 2 none, .fieldLink RX8 30 "FaxFilterModel" "out" "[Z", .fieldLink RX8 66 "FaxFilterModel" "written" "I"] ++ wsX80 ++ (vx_atM "java/lang/ArrayIndexOutOfBoundsException" ["java/lang/IndexOutOfBoundsException", "java/lang/RuntimeException", "java/lang/Exception"]).filter goodWord)
def wsX8_finish_r1 : List Cond := [Cond.fieldLink RX8 33 "FaxFilterModel" "kind" "I", Cond.fieldLink RX8 16 "FaxFilterModel" "settings" "[Z", Cond.methodLink RX8 142 yX8_hasMarks, Cond.instanceMethod yX8_hasMarks, Cond.selects RX8 yX8_hasMarks yX8_hasMarks, Cond.initialized RX8, Cond.code yX8_hasMarks cX8_hasMarks 1 (some .boolean), Cond.methodLink RX8 149 yX8_putMark, Cond.instanceMethod yX8_putMark, Cond.selects RX8 yX8_putMark yX8_putMark, Cond.code yX8_putMark cX8_putMark 1 none, Cond.methodLink RX8 102 yX8_putBits, Cond.instanceMethod yX8_putBits, Cond.selects RX8 yX8_putBits yX8_putBits, Cond.code yX8_putBits cX8_putBits 4 none, Cond.methodLink RX8 98 yX8_putBit, Cond.instanceMethod yX8_putBit, Cond.selects RX8 yX8_putBit yX8_putBit, Cond.code yX8_putBit cX8_putBit 2 none, Cond.fieldLink RX8 30 "FaxFilterModel" "out" "[Z", Cond.fieldLink RX8 66 "FaxFilterModel" "written" "I", Cond.methodLink RX8 146 yX8_fill, Cond.instanceMethod yX8_fill, Cond.selects RX8 yX8_fill yX8_fill]
def wsX8_finish_r2 : List Cond := [Cond.code yX8_fill cX8_fill 2 none]
def wsX8_finish : List Cond := .code yX8_finish cX8_finish 2 none :: ((wsX8_finish_r1 ++ wsX8_finish_r2) ++ wsX80 ++ (vx_atM "java/lang/ArrayIndexOutOfBoundsException" ["java/lang/IndexOutOfBoundsException", "java/lang/RuntimeException", "java/lang/Exception"]).filter goodWord)
def wsX8_write_r1 : List Cond := [Cond.fieldLink RX8 44 "FaxFilterModel" "thrown" "I", Cond.fieldLink RX8 66 "FaxFilterModel" "written" "I", Cond.fieldLink RX8 60 "FaxFilterModel" "rows" "I", Cond.fieldLink RX8 16 "FaxFilterModel" "settings" "[Z", Cond.fieldLink RX8 33 "FaxFilterModel" "kind" "I", Cond.methodLink RX8 142 yX8_hasMarks, Cond.instanceMethod yX8_hasMarks, Cond.selects RX8 yX8_hasMarks yX8_hasMarks, Cond.initialized RX8, Cond.code yX8_hasMarks cX8_hasMarks 1 (some .boolean), Cond.methodLink RX8 146 yX8_fill, Cond.instanceMethod yX8_fill, Cond.selects RX8 yX8_fill yX8_fill, Cond.code yX8_fill cX8_fill 2 none, Cond.methodLink RX8 98 yX8_putBit, Cond.instanceMethod yX8_putBit, Cond.selects RX8 yX8_putBit yX8_putBit, Cond.code yX8_putBit cX8_putBit 2 none, Cond.fieldLink RX8 30 "FaxFilterModel" "out" "[Z", Cond.methodLink RX8 149 yX8_putMark, Cond.instanceMethod yX8_putMark, Cond.selects RX8 yX8_putMark yX8_putMark, Cond.code yX8_putMark cX8_putMark 1 none, Cond.methodLink RX8 102 yX8_putBits]
def wsX8_write_r2 : List Cond := [Cond.instanceMethod yX8_putBits, Cond.selects RX8 yX8_putBits yX8_putBits, Cond.code yX8_putBits cX8_putBits 4 none, Cond.methodLink RX8 152 yX8_isPlain, Cond.instanceMethod yX8_isPlain, Cond.selects RX8 yX8_isPlain yX8_isPlain, Cond.code yX8_isPlain cX8_isPlain 2 (some .boolean), Cond.methodLink RX8 155 yX8_writePlain, Cond.instanceMethod yX8_writePlain, Cond.selects RX8 yX8_writePlain yX8_writePlain, Cond.code yX8_writePlain cX8_writePlain 5 none, Cond.fieldLink RX8 37 "FaxFilterModel" "columns" "I", Cond.methodLink RX8 109 yX8_otherFrom, Cond.instanceMethod yX8_otherFrom, Cond.selects RX8 yX8_otherFrom yX8_otherFrom, Cond.code yX8_otherFrom cX8_otherFrom 5 (some .int), Cond.methodLink RX8 88 yX8_at, Cond.instanceMethod yX8_at, Cond.selects RX8 yX8_at yX8_at, Cond.code yX8_at cX8_at 3 (some .boolean), Cond.fieldLink RX8 20 "FaxFilterModel" "dark" "[Z", Cond.methodLink RX8 113 yX8_putRun, Cond.instanceMethod yX8_putRun, Cond.selects RX8 yX8_putRun yX8_putRun]
def wsX8_write_r3 : List Cond := [Cond.code yX8_putRun cX8_putRun 4 none, Cond.methodLink RX8 106 yX8_putCode, Cond.instanceMethod yX8_putCode, Cond.selects RX8 yX8_putCode yX8_putCode, Cond.code yX8_putCode cX8_putCode 3 none, Cond.fieldLink RX8 7 "FaxFilterModel" "code" "[I", Cond.fieldLink RX8 13 "FaxFilterModel" "bits" "[I", Cond.methodLink RX8 158 yX8_writeDrawn, Cond.instanceMethod yX8_writeDrawn, Cond.selects RX8 yX8_writeDrawn yX8_writeDrawn, Cond.code yX8_writeDrawn cX8_writeDrawn 4 none, Cond.fieldLink RX8 121 "FaxFilterModel" "a" "I", Cond.fieldLink RX8 127 "FaxFilterModel" "isDark" "Z", Cond.fieldLink RX8 130 "FaxFilterModel" "c" "I", Cond.fieldLink RX8 124 "FaxFilterModel" "b" "I", Cond.fieldLink RX8 117 "FaxFilterModel" "isFirst" "Z", Cond.methodLink RX8 133 yX8_begin, Cond.instanceMethod yX8_begin, Cond.selects RX8 yX8_begin yX8_begin, Cond.code yX8_begin cX8_begin 1 none, Cond.methodLink RX8 136 yX8_look, Cond.instanceMethod yX8_look, Cond.selects RX8 yX8_look yX8_look, Cond.code yX8_look cX8_look 2 none]
def wsX8_write_r4 : List Cond := [Cond.methodLink RX8 92 yX8_isChange, Cond.instanceMethod yX8_isChange, Cond.selects RX8 yX8_isChange yX8_isChange, Cond.code yX8_isChange cX8_isChange 3 (some .boolean), Cond.methodLink RX8 139 yX8_putStep, Cond.instanceMethod yX8_putStep, Cond.selects RX8 yX8_putStep yX8_putStep, Cond.code yX8_putStep cX8_putStep 2 none, Cond.methodLink RX8 161 yX8_finish, Cond.instanceMethod yX8_finish, Cond.selects RX8 yX8_finish yX8_finish, Cond.code yX8_finish cX8_finish 2 none]
def wsX8_write : List Cond := .code yX8_write cX8_write 2 (some .int) :: ((wsX8_write_r1 ++ (wsX8_write_r2 ++ (wsX8_write_r3 ++ wsX8_write_r4))) ++ wsX80 ++ (vx_atM "java/lang/ArrayIndexOutOfBoundsException" ["java/lang/IndexOutOfBoundsException", "java/lang/RuntimeException", "java/lang/Exception"]).filter goodWord)
def wsX8_octet : List Cond := .code yX8_octet cX8_octet 2 (some .int) :: ([.fieldLink RX8 66 "FaxFilterModel" "written" "I", .fieldLink RX8 44 "FaxFilterModel" "thrown" "I", .methodLink RX8 77 yX8_byteOf, .instanceMethod yX8_byteOf, .selects RX8 yX8_byteOf yX8_byteOf, .initialized RX8, .code yX8_byteOf cX8_byteOf 4 (some .int), .fieldLink RX8 30 "FaxFilterModel" "out" "[Z"] ++ wsX80 ++ (vx_atM "java/lang/ArrayIndexOutOfBoundsException" ["java/lang/IndexOutOfBoundsException", "java/lang/RuntimeException", "java/lang/Exception"]).filter goodWord)
def wsX8_left : List Cond := .code yX8_left cX8_left 1 (some .int) :: ([.fieldLink RX8 63 "FaxFilterModel" "collected" "I", .fieldLink RX8 69 "FaxFilterModel" "place" "I"] ++ wsX80)
def wsX8_bitAt : List Cond := .code yX8_bitAt cX8_bitAt 2 (some .int) :: ([.fieldLink RX8 26 "FaxFilterModel" "bytes" "[I"] ++ wsX80 ++ (vx_atM "java/lang/ArrayIndexOutOfBoundsException" ["java/lang/IndexOutOfBoundsException", "java/lang/RuntimeException", "java/lang/Exception"]).filter goodWord)
def wsX8_zeros : List Cond := .code yX8_zeros cX8_zeros 2 (some .int) :: ([.fieldLink RX8 69 "FaxFilterModel" "place" "I", .methodLink RX8 164 yX8_left, .instanceMethod yX8_left, .selects RX8 yX8_left yX8_left, .initialized RX8, .code yX8_left cX8_left 1 (some .int), .fieldLink RX8 63 "FaxFilterModel" "collected" "I", .methodLink RX8 168 yX8_bitAt, .instanceMethod yX8_bitAt, .selects RX8 yX8_bitAt yX8_bitAt, .code yX8_bitAt cX8_bitAt 2 (some .int), .fieldLink RX8 26 "FaxFilterModel" "bytes" "[I"] ++ wsX80 ++ (vx_atM "java/lang/ArrayIndexOutOfBoundsException" ["java/lang/IndexOutOfBoundsException", "java/lang/RuntimeException", "java/lang/Exception"]).filter goodWord)
def wsX8_isMarkHere : List Cond := .code yX8_isMarkHere cX8_isMarkHere 1 (some .boolean) :: ([.methodLink RX8 171 yX8_zeros, .instanceMethod yX8_zeros, .selects RX8 yX8_zeros yX8_zeros, .initialized RX8, .code yX8_zeros cX8_zeros 2 (some .int), .fieldLink RX8 69 "FaxFilterModel" "place" "I", .methodLink RX8 164 yX8_left, .instanceMethod yX8_left, .selects RX8 yX8_left yX8_left, .code yX8_left cX8_left 1 (some .int), .fieldLink RX8 63 "FaxFilterModel" "collected" "I", .methodLink RX8 168 yX8_bitAt, .instanceMethod yX8_bitAt, .selects RX8 yX8_bitAt yX8_bitAt, .code yX8_bitAt cX8_bitAt 2 (some .int), .fieldLink RX8 26 "FaxFilterModel" "bytes" "[I"] ++ wsX80 ++ (vx_atM "java/lang/ArrayIndexOutOfBoundsException" ["java/lang/IndexOutOfBoundsException", "java/lang/RuntimeException", "java/lang/Exception"]).filter goodWord)
def wsX8_findMark : List Cond := .code yX8_findMark cX8_findMark 2 (some .boolean) :: ([.fieldLink RX8 69 "FaxFilterModel" "place" "I", .fieldLink RX8 63 "FaxFilterModel" "collected" "I", .methodLink RX8 171 yX8_zeros, .instanceMethod yX8_zeros, .selects RX8 yX8_zeros yX8_zeros, .initialized RX8, .code yX8_zeros cX8_zeros 2 (some .int), .methodLink RX8 164 yX8_left, .instanceMethod yX8_left, .selects RX8 yX8_left yX8_left, .code yX8_left cX8_left 1 (some .int), .methodLink RX8 168 yX8_bitAt, .instanceMethod yX8_bitAt, .selects RX8 yX8_bitAt yX8_bitAt, .code yX8_bitAt cX8_bitAt 2 (some .int), .fieldLink RX8 26 "FaxFilterModel" "bytes" "[I"] ++ wsX80 ++ (vx_atM "java/lang/ArrayIndexOutOfBoundsException" ["java/lang/IndexOutOfBoundsException", "java/lang/RuntimeException", "java/lang/Exception"]).filter goodWord)
def wsX8_begins : List Cond := .code yX8_begins cX8_begins 5 (some .boolean) :: ([.fieldLink RX8 69 "FaxFilterModel" "place" "I", .methodLink RX8 164 yX8_left, .instanceMethod yX8_left, .selects RX8 yX8_left yX8_left, .initialized RX8, .code yX8_left cX8_left 1 (some .int), .fieldLink RX8 63 "FaxFilterModel" "collected" "I", .methodLink RX8 168 yX8_bitAt, .instanceMethod yX8_bitAt, .selects RX8 yX8_bitAt yX8_bitAt, .code yX8_bitAt cX8_bitAt 2 (some .int), .fieldLink RX8 26 "FaxFilterModel" "bytes" "[I"] ++ wsX80 ++ (vx_atM "java/lang/ArrayIndexOutOfBoundsException" ["java/lang/IndexOutOfBoundsException", "java/lang/RuntimeException", "java/lang/Exception"]).filter goodWord)
def wsX8_takeCode : List Cond := .code yX8_takeCode cX8_takeCode 4 (some .int) :: ([.fieldLink RX8 7 "FaxFilterModel" "code" "[I", .fieldLink RX8 13 "FaxFilterModel" "bits" "[I", .fieldLink RX8 69 "FaxFilterModel" "place" "I", .methodLink RX8 51 yX8_isRun, .static yX8_isRun, .initialized RX8, .code yX8_isRun cX8_isRun 1 (some .boolean), .methodLink RX8 174 yX8_begins, .instanceMethod yX8_begins, .selects RX8 yX8_begins yX8_begins, .code yX8_begins cX8_begins 5 (some .boolean), .methodLink RX8 164 yX8_left, .instanceMethod yX8_left, .selects RX8 yX8_left yX8_left, .code yX8_left cX8_left 1 (some .int), .fieldLink RX8 63 "FaxFilterModel" "collected" "I", .methodLink RX8 168 yX8_bitAt, .instanceMethod yX8_bitAt, .selects RX8 yX8_bitAt yX8_bitAt, .code yX8_bitAt cX8_bitAt 2 (some .int), .fieldLink RX8 26 "FaxFilterModel" "bytes" "[I"] ++ wsX80 ++ (vx_atM "java/lang/ArrayIndexOutOfBoundsException" ["java/lang/IndexOutOfBoundsException", "java/lang/RuntimeException", "java/lang/Exception"]).filter goodWord)
def wsX8_takeRun_r1 : List Cond := [Cond.fieldLink RX8 177 "FaxFilterModel" "hadMake" "Z", Cond.methodLink RX8 180 yX8_takeCode, Cond.instanceMethod yX8_takeCode, Cond.selects RX8 yX8_takeCode yX8_takeCode, Cond.initialized RX8, Cond.code yX8_takeCode cX8_takeCode 4 (some .int), Cond.fieldLink RX8 7 "FaxFilterModel" "code" "[I", Cond.fieldLink RX8 13 "FaxFilterModel" "bits" "[I", Cond.fieldLink RX8 69 "FaxFilterModel" "place" "I", Cond.methodLink RX8 51 yX8_isRun, Cond.static yX8_isRun, Cond.code yX8_isRun cX8_isRun 1 (some .boolean), Cond.methodLink RX8 174 yX8_begins, Cond.instanceMethod yX8_begins, Cond.selects RX8 yX8_begins yX8_begins, Cond.code yX8_begins cX8_begins 5 (some .boolean), Cond.methodLink RX8 164 yX8_left, Cond.instanceMethod yX8_left, Cond.selects RX8 yX8_left yX8_left, Cond.code yX8_left cX8_left 1 (some .int), Cond.fieldLink RX8 63 "FaxFilterModel" "collected" "I", Cond.methodLink RX8 168 yX8_bitAt, Cond.instanceMethod yX8_bitAt, Cond.selects RX8 yX8_bitAt yX8_bitAt]
def wsX8_takeRun_r2 : List Cond := [Cond.code yX8_bitAt cX8_bitAt 2 (some .int), Cond.fieldLink RX8 26 "FaxFilterModel" "bytes" "[I"]
def wsX8_takeRun : List Cond := .code yX8_takeRun cX8_takeRun 4 (some .int) :: ((wsX8_takeRun_r1 ++ wsX8_takeRun_r2) ++ wsX80 ++ (vx_atM "java/lang/ArrayIndexOutOfBoundsException" ["java/lang/IndexOutOfBoundsException", "java/lang/RuntimeException", "java/lang/Exception"]).filter goodWord)
def wsX8_paintRun : List Cond := .code yX8_paintRun cX8_paintRun 6 (some .int) :: ([.fieldLink RX8 37 "FaxFilterModel" "columns" "I", .fieldLink RX8 183 "FaxFilterModel" "state" "I", .methodLink RX8 84 yX8_paint, .instanceMethod yX8_paint, .selects RX8 yX8_paint yX8_paint, .initialized RX8, .code yX8_paint cX8_paint 6 none, .fieldLink RX8 20 "FaxFilterModel" "dark" "[Z"] ++ wsX80 ++ (vx_atM "java/lang/ArrayIndexOutOfBoundsException" ["java/lang/IndexOutOfBoundsException", "java/lang/RuntimeException", "java/lang/Exception"]).filter goodWord)
def wsX8_readPlain_r1 : List Cond := [Cond.fieldLink RX8 37 "FaxFilterModel" "columns" "I", Cond.fieldLink RX8 177 "FaxFilterModel" "hadMake" "Z", Cond.fieldLink RX8 183 "FaxFilterModel" "state" "I", Cond.methodLink RX8 186 yX8_takeRun, Cond.instanceMethod yX8_takeRun, Cond.selects RX8 yX8_takeRun yX8_takeRun, Cond.initialized RX8, Cond.code yX8_takeRun cX8_takeRun 4 (some .int), Cond.methodLink RX8 180 yX8_takeCode, Cond.instanceMethod yX8_takeCode, Cond.selects RX8 yX8_takeCode yX8_takeCode, Cond.code yX8_takeCode cX8_takeCode 4 (some .int), Cond.fieldLink RX8 7 "FaxFilterModel" "code" "[I", Cond.fieldLink RX8 13 "FaxFilterModel" "bits" "[I", Cond.fieldLink RX8 69 "FaxFilterModel" "place" "I", Cond.methodLink RX8 51 yX8_isRun, Cond.static yX8_isRun, Cond.code yX8_isRun cX8_isRun 1 (some .boolean), Cond.methodLink RX8 174 yX8_begins, Cond.instanceMethod yX8_begins, Cond.selects RX8 yX8_begins yX8_begins, Cond.code yX8_begins cX8_begins 5 (some .boolean), Cond.methodLink RX8 164 yX8_left, Cond.instanceMethod yX8_left]
def wsX8_readPlain_r2 : List Cond := [Cond.selects RX8 yX8_left yX8_left, Cond.code yX8_left cX8_left 1 (some .int), Cond.fieldLink RX8 63 "FaxFilterModel" "collected" "I", Cond.methodLink RX8 168 yX8_bitAt, Cond.instanceMethod yX8_bitAt, Cond.selects RX8 yX8_bitAt yX8_bitAt, Cond.code yX8_bitAt cX8_bitAt 2 (some .int), Cond.fieldLink RX8 26 "FaxFilterModel" "bytes" "[I", Cond.methodLink RX8 142 yX8_hasMarks, Cond.instanceMethod yX8_hasMarks, Cond.selects RX8 yX8_hasMarks yX8_hasMarks, Cond.code yX8_hasMarks cX8_hasMarks 1 (some .boolean), Cond.fieldLink RX8 33 "FaxFilterModel" "kind" "I", Cond.fieldLink RX8 16 "FaxFilterModel" "settings" "[Z", Cond.methodLink RX8 190 yX8_isMarkHere, Cond.instanceMethod yX8_isMarkHere, Cond.selects RX8 yX8_isMarkHere yX8_isMarkHere, Cond.code yX8_isMarkHere cX8_isMarkHere 1 (some .boolean), Cond.methodLink RX8 171 yX8_zeros, Cond.instanceMethod yX8_zeros, Cond.selects RX8 yX8_zeros yX8_zeros, Cond.code yX8_zeros cX8_zeros 2 (some .int), Cond.methodLink RX8 193 yX8_paintRun, Cond.instanceMethod yX8_paintRun]
def wsX8_readPlain_r3 : List Cond := [Cond.selects RX8 yX8_paintRun yX8_paintRun, Cond.code yX8_paintRun cX8_paintRun 6 (some .int), Cond.methodLink RX8 84 yX8_paint, Cond.instanceMethod yX8_paint, Cond.selects RX8 yX8_paint yX8_paint, Cond.code yX8_paint cX8_paint 6 none, Cond.fieldLink RX8 20 "FaxFilterModel" "dark" "[Z"]
def wsX8_readPlain : List Cond := .code yX8_readPlain cX8_readPlain 6 (some .boolean) :: ((wsX8_readPlain_r1 ++ (wsX8_readPlain_r2 ++ wsX8_readPlain_r3)) ++ wsX80 ++ (vx_atM "java/lang/ArrayIndexOutOfBoundsException" ["java/lang/IndexOutOfBoundsException", "java/lang/RuntimeException", "java/lang/Exception"]).filter goodWord)
def wsX8_takeStep : List Cond := .code yX8_takeStep cX8_takeStep 4 (some .int) :: ([.fieldLink RX8 69 "FaxFilterModel" "place" "I", .methodLink RX8 174 yX8_begins, .instanceMethod yX8_begins, .selects RX8 yX8_begins yX8_begins, .initialized RX8, .code yX8_begins cX8_begins 5 (some .boolean), .methodLink RX8 164 yX8_left, .instanceMethod yX8_left, .selects RX8 yX8_left yX8_left, .code yX8_left cX8_left 1 (some .int), .fieldLink RX8 63 "FaxFilterModel" "collected" "I", .methodLink RX8 168 yX8_bitAt, .instanceMethod yX8_bitAt, .selects RX8 yX8_bitAt yX8_bitAt, .code yX8_bitAt cX8_bitAt 2 (some .int), .fieldLink RX8 26 "FaxFilterModel" "bytes" "[I"] ++ wsX80 ++ (vx_atM "java/lang/ArrayIndexOutOfBoundsException" ["java/lang/IndexOutOfBoundsException", "java/lang/RuntimeException", "java/lang/Exception"]).filter goodWord)
def wsX8_readAcross_r1 : List Cond := [Cond.fieldLink RX8 127 "FaxFilterModel" "isDark" "Z", Cond.fieldLink RX8 183 "FaxFilterModel" "state" "I", Cond.fieldLink RX8 121 "FaxFilterModel" "a" "I", Cond.methodLink RX8 186 yX8_takeRun, Cond.instanceMethod yX8_takeRun, Cond.selects RX8 yX8_takeRun yX8_takeRun, Cond.initialized RX8, Cond.code yX8_takeRun cX8_takeRun 4 (some .int), Cond.fieldLink RX8 177 "FaxFilterModel" "hadMake" "Z", Cond.methodLink RX8 180 yX8_takeCode, Cond.instanceMethod yX8_takeCode, Cond.selects RX8 yX8_takeCode yX8_takeCode, Cond.code yX8_takeCode cX8_takeCode 4 (some .int), Cond.fieldLink RX8 7 "FaxFilterModel" "code" "[I", Cond.fieldLink RX8 13 "FaxFilterModel" "bits" "[I", Cond.fieldLink RX8 69 "FaxFilterModel" "place" "I", Cond.methodLink RX8 51 yX8_isRun, Cond.static yX8_isRun, Cond.code yX8_isRun cX8_isRun 1 (some .boolean), Cond.methodLink RX8 174 yX8_begins, Cond.instanceMethod yX8_begins, Cond.selects RX8 yX8_begins yX8_begins, Cond.code yX8_begins cX8_begins 5 (some .boolean), Cond.methodLink RX8 164 yX8_left]
def wsX8_readAcross_r2 : List Cond := [Cond.instanceMethod yX8_left, Cond.selects RX8 yX8_left yX8_left, Cond.code yX8_left cX8_left 1 (some .int), Cond.fieldLink RX8 63 "FaxFilterModel" "collected" "I", Cond.methodLink RX8 168 yX8_bitAt, Cond.instanceMethod yX8_bitAt, Cond.selects RX8 yX8_bitAt yX8_bitAt, Cond.code yX8_bitAt cX8_bitAt 2 (some .int), Cond.fieldLink RX8 26 "FaxFilterModel" "bytes" "[I", Cond.methodLink RX8 193 yX8_paintRun, Cond.instanceMethod yX8_paintRun, Cond.selects RX8 yX8_paintRun yX8_paintRun, Cond.code yX8_paintRun cX8_paintRun 6 (some .int), Cond.fieldLink RX8 37 "FaxFilterModel" "columns" "I", Cond.methodLink RX8 84 yX8_paint, Cond.instanceMethod yX8_paint, Cond.selects RX8 yX8_paint yX8_paint, Cond.code yX8_paint cX8_paint 6 none, Cond.fieldLink RX8 20 "FaxFilterModel" "dark" "[Z"]
def wsX8_readAcross : List Cond := .code yX8_readAcross cX8_readAcross 5 (some .boolean) :: ((wsX8_readAcross_r1 ++ wsX8_readAcross_r2) ++ wsX80 ++ (vx_atM "java/lang/ArrayIndexOutOfBoundsException" ["java/lang/IndexOutOfBoundsException", "java/lang/RuntimeException", "java/lang/Exception"]).filter goodWord)
def wsX8_readDrawn_r1 : List Cond := [Cond.fieldLink RX8 121 "FaxFilterModel" "a" "I", Cond.fieldLink RX8 37 "FaxFilterModel" "columns" "I", Cond.fieldLink RX8 183 "FaxFilterModel" "state" "I", Cond.fieldLink RX8 130 "FaxFilterModel" "c" "I", Cond.fieldLink RX8 127 "FaxFilterModel" "isDark" "Z", Cond.fieldLink RX8 124 "FaxFilterModel" "b" "I", Cond.fieldLink RX8 117 "FaxFilterModel" "isFirst" "Z", Cond.methodLink RX8 133 yX8_begin, Cond.instanceMethod yX8_begin, Cond.selects RX8 yX8_begin yX8_begin, Cond.initialized RX8, Cond.code yX8_begin cX8_begin 1 none, Cond.methodLink RX8 136 yX8_look, Cond.instanceMethod yX8_look, Cond.selects RX8 yX8_look yX8_look, Cond.code yX8_look cX8_look 2 none, Cond.methodLink RX8 92 yX8_isChange, Cond.instanceMethod yX8_isChange, Cond.selects RX8 yX8_isChange yX8_isChange, Cond.code yX8_isChange cX8_isChange 3 (some .boolean), Cond.methodLink RX8 88 yX8_at, Cond.instanceMethod yX8_at, Cond.selects RX8 yX8_at yX8_at, Cond.code yX8_at cX8_at 3 (some .boolean)]
def wsX8_readDrawn_r2 : List Cond := [Cond.fieldLink RX8 20 "FaxFilterModel" "dark" "[Z", Cond.methodLink RX8 197 yX8_takeStep, Cond.instanceMethod yX8_takeStep, Cond.selects RX8 yX8_takeStep yX8_takeStep, Cond.code yX8_takeStep cX8_takeStep 4 (some .int), Cond.fieldLink RX8 69 "FaxFilterModel" "place" "I", Cond.methodLink RX8 174 yX8_begins, Cond.instanceMethod yX8_begins, Cond.selects RX8 yX8_begins yX8_begins, Cond.code yX8_begins cX8_begins 5 (some .boolean), Cond.methodLink RX8 164 yX8_left, Cond.instanceMethod yX8_left, Cond.selects RX8 yX8_left yX8_left, Cond.code yX8_left cX8_left 1 (some .int), Cond.fieldLink RX8 63 "FaxFilterModel" "collected" "I", Cond.methodLink RX8 168 yX8_bitAt, Cond.instanceMethod yX8_bitAt, Cond.selects RX8 yX8_bitAt yX8_bitAt, Cond.code yX8_bitAt cX8_bitAt 2 (some .int), Cond.fieldLink RX8 26 "FaxFilterModel" "bytes" "[I", Cond.methodLink RX8 200 yX8_readAcross, Cond.instanceMethod yX8_readAcross, Cond.selects RX8 yX8_readAcross yX8_readAcross, Cond.code yX8_readAcross cX8_readAcross 5 (some .boolean)]
def wsX8_readDrawn_r3 : List Cond := [Cond.methodLink RX8 186 yX8_takeRun, Cond.instanceMethod yX8_takeRun, Cond.selects RX8 yX8_takeRun yX8_takeRun, Cond.code yX8_takeRun cX8_takeRun 4 (some .int), Cond.fieldLink RX8 177 "FaxFilterModel" "hadMake" "Z", Cond.methodLink RX8 180 yX8_takeCode, Cond.instanceMethod yX8_takeCode, Cond.selects RX8 yX8_takeCode yX8_takeCode, Cond.code yX8_takeCode cX8_takeCode 4 (some .int), Cond.fieldLink RX8 7 "FaxFilterModel" "code" "[I", Cond.fieldLink RX8 13 "FaxFilterModel" "bits" "[I", Cond.methodLink RX8 51 yX8_isRun, Cond.static yX8_isRun, Cond.code yX8_isRun cX8_isRun 1 (some .boolean), Cond.methodLink RX8 193 yX8_paintRun, Cond.instanceMethod yX8_paintRun, Cond.selects RX8 yX8_paintRun yX8_paintRun, Cond.code yX8_paintRun cX8_paintRun 6 (some .int), Cond.methodLink RX8 84 yX8_paint, Cond.instanceMethod yX8_paint, Cond.selects RX8 yX8_paint yX8_paint, Cond.code yX8_paint cX8_paint 6 none]
def wsX8_readDrawn : List Cond := .code yX8_readDrawn cX8_readDrawn 3 (some .boolean) :: ((wsX8_readDrawn_r1 ++ (wsX8_readDrawn_r2 ++ wsX8_readDrawn_r3)) ++ wsX80 ++ (vx_atM "java/lang/ArrayIndexOutOfBoundsException" ["java/lang/IndexOutOfBoundsException", "java/lang/RuntimeException", "java/lang/Exception"]).filter goodWord)
def wsX8_readHead_r1 : List Cond := [Cond.fieldLink RX8 33 "FaxFilterModel" "kind" "I", Cond.fieldLink RX8 69 "FaxFilterModel" "place" "I", Cond.fieldLink RX8 16 "FaxFilterModel" "settings" "[Z", Cond.methodLink RX8 142 yX8_hasMarks, Cond.instanceMethod yX8_hasMarks, Cond.selects RX8 yX8_hasMarks yX8_hasMarks, Cond.initialized RX8, Cond.code yX8_hasMarks cX8_hasMarks 1 (some .boolean), Cond.methodLink RX8 203 yX8_findMark, Cond.instanceMethod yX8_findMark, Cond.selects RX8 yX8_findMark yX8_findMark, Cond.code yX8_findMark cX8_findMark 2 (some .boolean), Cond.fieldLink RX8 63 "FaxFilterModel" "collected" "I", Cond.methodLink RX8 171 yX8_zeros, Cond.instanceMethod yX8_zeros, Cond.selects RX8 yX8_zeros yX8_zeros, Cond.code yX8_zeros cX8_zeros 2 (some .int), Cond.methodLink RX8 164 yX8_left, Cond.instanceMethod yX8_left, Cond.selects RX8 yX8_left yX8_left, Cond.code yX8_left cX8_left 1 (some .int), Cond.methodLink RX8 168 yX8_bitAt, Cond.instanceMethod yX8_bitAt, Cond.selects RX8 yX8_bitAt yX8_bitAt]
def wsX8_readHead_r2 : List Cond := [Cond.code yX8_bitAt cX8_bitAt 2 (some .int), Cond.fieldLink RX8 26 "FaxFilterModel" "bytes" "[I", Cond.methodLink RX8 190 yX8_isMarkHere, Cond.instanceMethod yX8_isMarkHere, Cond.selects RX8 yX8_isMarkHere yX8_isMarkHere, Cond.code yX8_isMarkHere cX8_isMarkHere 1 (some .boolean)]
def wsX8_readHead : List Cond := .code yX8_readHead cX8_readHead 2 (some .int) :: ((wsX8_readHead_r1 ++ wsX8_readHead_r2) ++ wsX80 ++ (vx_atM "java/lang/ArrayIndexOutOfBoundsException" ["java/lang/IndexOutOfBoundsException", "java/lang/RuntimeException", "java/lang/Exception"]).filter goodWord)
def wsX8_repair : List Cond := .code yX8_repair cX8_repair 3 none :: ([.fieldLink RX8 37 "FaxFilterModel" "columns" "I", .fieldLink RX8 20 "FaxFilterModel" "dark" "[Z", .fieldLink RX8 16 "FaxFilterModel" "settings" "[Z"] ++ wsX80 ++ (vx_atM "java/lang/ArrayIndexOutOfBoundsException" ["java/lang/IndexOutOfBoundsException", "java/lang/RuntimeException", "java/lang/Exception"]).filter goodWord)
def wsX8_read_r1 : List Cond := [Cond.fieldLink RX8 44 "FaxFilterModel" "thrown" "I", Cond.fieldLink RX8 60 "FaxFilterModel" "rows" "I", Cond.fieldLink RX8 69 "FaxFilterModel" "place" "I", Cond.fieldLink RX8 72 "FaxFilterModel" "damaged" "I", Cond.fieldLink RX8 183 "FaxFilterModel" "state" "I", Cond.fieldLink RX8 23 "FaxFilterModel" "states" "[I", Cond.methodLink RX8 206 yX8_readHead, Cond.instanceMethod yX8_readHead, Cond.selects RX8 yX8_readHead yX8_readHead, Cond.initialized RX8, Cond.code yX8_readHead cX8_readHead 2 (some .int), Cond.fieldLink RX8 33 "FaxFilterModel" "kind" "I", Cond.fieldLink RX8 16 "FaxFilterModel" "settings" "[Z", Cond.methodLink RX8 142 yX8_hasMarks, Cond.instanceMethod yX8_hasMarks, Cond.selects RX8 yX8_hasMarks yX8_hasMarks, Cond.code yX8_hasMarks cX8_hasMarks 1 (some .boolean), Cond.methodLink RX8 203 yX8_findMark, Cond.instanceMethod yX8_findMark, Cond.selects RX8 yX8_findMark yX8_findMark, Cond.code yX8_findMark cX8_findMark 2 (some .boolean), Cond.fieldLink RX8 63 "FaxFilterModel" "collected" "I", Cond.methodLink RX8 171 yX8_zeros, Cond.instanceMethod yX8_zeros]
def wsX8_read_r2 : List Cond := [Cond.selects RX8 yX8_zeros yX8_zeros, Cond.code yX8_zeros cX8_zeros 2 (some .int), Cond.methodLink RX8 164 yX8_left, Cond.instanceMethod yX8_left, Cond.selects RX8 yX8_left yX8_left, Cond.code yX8_left cX8_left 1 (some .int), Cond.methodLink RX8 168 yX8_bitAt, Cond.instanceMethod yX8_bitAt, Cond.selects RX8 yX8_bitAt yX8_bitAt, Cond.code yX8_bitAt cX8_bitAt 2 (some .int), Cond.fieldLink RX8 26 "FaxFilterModel" "bytes" "[I", Cond.methodLink RX8 190 yX8_isMarkHere, Cond.instanceMethod yX8_isMarkHere, Cond.selects RX8 yX8_isMarkHere yX8_isMarkHere, Cond.code yX8_isMarkHere cX8_isMarkHere 1 (some .boolean), Cond.methodLink RX8 84 yX8_paint, Cond.instanceMethod yX8_paint, Cond.selects RX8 yX8_paint yX8_paint, Cond.code yX8_paint cX8_paint 6 none, Cond.fieldLink RX8 20 "FaxFilterModel" "dark" "[Z", Cond.methodLink RX8 209 yX8_readPlain, Cond.instanceMethod yX8_readPlain, Cond.selects RX8 yX8_readPlain yX8_readPlain, Cond.code yX8_readPlain cX8_readPlain 6 (some .boolean)]
def wsX8_read_r3 : List Cond := [Cond.fieldLink RX8 37 "FaxFilterModel" "columns" "I", Cond.fieldLink RX8 177 "FaxFilterModel" "hadMake" "Z", Cond.methodLink RX8 186 yX8_takeRun, Cond.instanceMethod yX8_takeRun, Cond.selects RX8 yX8_takeRun yX8_takeRun, Cond.code yX8_takeRun cX8_takeRun 4 (some .int), Cond.methodLink RX8 180 yX8_takeCode, Cond.instanceMethod yX8_takeCode, Cond.selects RX8 yX8_takeCode yX8_takeCode, Cond.code yX8_takeCode cX8_takeCode 4 (some .int), Cond.fieldLink RX8 7 "FaxFilterModel" "code" "[I", Cond.fieldLink RX8 13 "FaxFilterModel" "bits" "[I", Cond.methodLink RX8 51 yX8_isRun, Cond.static yX8_isRun, Cond.code yX8_isRun cX8_isRun 1 (some .boolean), Cond.methodLink RX8 174 yX8_begins, Cond.instanceMethod yX8_begins, Cond.selects RX8 yX8_begins yX8_begins, Cond.code yX8_begins cX8_begins 5 (some .boolean), Cond.methodLink RX8 193 yX8_paintRun, Cond.instanceMethod yX8_paintRun, Cond.selects RX8 yX8_paintRun yX8_paintRun, Cond.code yX8_paintRun cX8_paintRun 6 (some .int), Cond.methodLink RX8 212 yX8_readDrawn]
def wsX8_read_r4 : List Cond := [Cond.instanceMethod yX8_readDrawn, Cond.selects RX8 yX8_readDrawn yX8_readDrawn, Cond.code yX8_readDrawn cX8_readDrawn 3 (some .boolean), Cond.fieldLink RX8 121 "FaxFilterModel" "a" "I", Cond.fieldLink RX8 130 "FaxFilterModel" "c" "I", Cond.fieldLink RX8 127 "FaxFilterModel" "isDark" "Z", Cond.fieldLink RX8 124 "FaxFilterModel" "b" "I", Cond.fieldLink RX8 117 "FaxFilterModel" "isFirst" "Z", Cond.methodLink RX8 133 yX8_begin, Cond.instanceMethod yX8_begin, Cond.selects RX8 yX8_begin yX8_begin, Cond.code yX8_begin cX8_begin 1 none, Cond.methodLink RX8 136 yX8_look, Cond.instanceMethod yX8_look, Cond.selects RX8 yX8_look yX8_look, Cond.code yX8_look cX8_look 2 none, Cond.methodLink RX8 92 yX8_isChange, Cond.instanceMethod yX8_isChange, Cond.selects RX8 yX8_isChange yX8_isChange, Cond.code yX8_isChange cX8_isChange 3 (some .boolean), Cond.methodLink RX8 88 yX8_at, Cond.instanceMethod yX8_at, Cond.selects RX8 yX8_at yX8_at, Cond.code yX8_at cX8_at 3 (some .boolean)]
def wsX8_read_r5 : List Cond := [Cond.methodLink RX8 197 yX8_takeStep, Cond.instanceMethod yX8_takeStep, Cond.selects RX8 yX8_takeStep yX8_takeStep, Cond.code yX8_takeStep cX8_takeStep 4 (some .int), Cond.methodLink RX8 200 yX8_readAcross, Cond.instanceMethod yX8_readAcross, Cond.selects RX8 yX8_readAcross yX8_readAcross, Cond.code yX8_readAcross cX8_readAcross 5 (some .boolean), Cond.methodLink RX8 215 yX8_repair, Cond.instanceMethod yX8_repair, Cond.selects RX8 yX8_repair yX8_repair, Cond.code yX8_repair cX8_repair 3 none]
def wsX8_read : List Cond := .code yX8_read cX8_read 4 (some .int) :: ((wsX8_read_r1 ++ (wsX8_read_r2 ++ (wsX8_read_r3 ++ (wsX8_read_r4 ++ wsX8_read_r5)))) ++ wsX80 ++ (vx_atM "java/lang/ArrayIndexOutOfBoundsException" ["java/lang/IndexOutOfBoundsException", "java/lang/RuntimeException", "java/lang/Exception"]).filter goodWord)
def wsJx00060_init_a7421 : List Cond := .code yJx00060_init_a7421 cJx00060_init_a7421 2 none :: ([])
def wsJ9_max_7cf53 : List Cond := .code yJ9_max_7cf53 cJ9_max_7cf53 2 (some .int) :: ([])
def wsJ9_min_7cf53 : List Cond := .code yJ9_min_7cf53 cJ9_min_7cf53 2 (some .int) :: ([])
def wsL_cell : List Cond := .code yL_cell cL_cell 2 (some .int) :: ([] ++ (vx_atM "java/lang/ArrayIndexOutOfBoundsException" ["java/lang/IndexOutOfBoundsException", "java/lang/RuntimeException", "java/lang/Exception"]).filter goodWord)
def wsL_told_r1 : List Cond := [Cond.classLink RL 13 "java/lang/IllegalArgumentException", Cond.methodLink RL 7 yX7_told, Cond.instanceMethod yX7_told, Cond.selects RX7 yX7_told yX7_told, Cond.initialized RX7, Cond.code yX7_told cX7_told 2 (some .int), Cond.classLink RX7 107 "java/lang/IllegalArgumentException", Cond.initialized "java/lang/IllegalArgumentException", Cond.fieldLink RX7 23 "FaxFilter" "settings" "LFaxFilter$Settings;", Cond.fieldLink RX7 89 "FaxFilter$Settings" "kind" "I", Cond.fieldLink RX7 30 "FaxFilter" "picture" "LFaxFilter$Picture;", Cond.fieldLink RX7 62 "FaxFilter$Picture" "columns" "I", Cond.fieldLink RX7 92 "FaxFilter$Picture" "rows" "I", Cond.fieldLink RX7 56 "FaxFilter" "collected" "LFaxFilter$BitsIn;", Cond.fieldLink RX7 95 "FaxFilter$BitsIn" "size" "I", Cond.fieldLink RX7 67 "FaxFilter" "written" "LFaxFilter$BitsOut;", Cond.fieldLink RX7 101 "FaxFilter$BitsIn" "passed" "I", Cond.fieldLink RX7 85 "FaxFilter" "receiver" "LFaxFilter$Receiver;", Cond.fieldLink RX7 104 "FaxFilter$Receiver" "damaged" "I", Cond.methodLink RX7 98 yX1_size, Cond.instanceMethod yX1_size, Cond.selects RX1 yX1_size yX1_size, Cond.initialized RX1, Cond.code yX1_size cX1_size 1 (some .int)]
def wsL_told_r2 : List Cond := [Cond.fieldLink RX1 15 "FaxFilter$BitsOut" "bits" "I"]
def wsL_told : List Cond := .codeWith yL_told cL_told 4 (some .int) [(0, 9, 12, 13)] :: ((wsL_told_r1 ++ wsL_told_r2) ++ wsX70 ++ wsX50 ++ wsX20 ++ wsX00 ++ wsX30 ++ wsX10 ++ (vx_atM "java/lang/ArrayIndexOutOfBoundsException" ["java/lang/IndexOutOfBoundsException", "java/lang/RuntimeException", "java/lang/Exception"]).filter goodWord ++ (vx_atS RX7 111 "java/lang/IllegalArgumentException" ["java/lang/RuntimeException", "java/lang/Exception"]).filter goodWord)
def wsL_setting : List Cond := .codeWith yL_setting cL_setting 4 (some .int) [(0, 6, 9, 13)] :: ([.classLink RL 13 "java/lang/IllegalArgumentException", .methodLink RL 15 yX7_setting, .instanceMethod yX7_setting, .selects RX7 yX7_setting yX7_setting, .initialized RX7, .code yX7_setting cX7_setting 3 none, .classLink RX7 107 "java/lang/IllegalArgumentException", .initialized "java/lang/IllegalArgumentException", .fieldLink RX7 23 "FaxFilter" "settings" "LFaxFilter$Settings;", .fieldLink RX7 114 "FaxFilter$Settings" "marks" "Z", .fieldLink RX7 118 "FaxFilter$Settings" "aligned" "Z", .fieldLink RX7 121 "FaxFilter$Settings" "darkIsZero" "Z", .fieldLink RX7 124 "FaxFilter$Settings" "repeatDamaged" "Z"] ++ wsX70 ++ wsX50 ++ (vx_atS RX7 111 "java/lang/IllegalArgumentException" ["java/lang/RuntimeException", "java/lang/Exception"]).filter goodWord)
def wsL_read_r1 : List Cond := [Cond.classLink RL 13 "java/lang/IllegalArgumentException", Cond.methodLink RL 19 yX7_read, Cond.instanceMethod yX7_read, Cond.selects RX7 yX7_read yX7_read, Cond.initialized RX7, Cond.code yX7_read cX7_read 4 (some .int), Cond.classLink RX7 107 "java/lang/IllegalArgumentException", Cond.initialized "java/lang/IllegalArgumentException", Cond.fieldLink RX7 85 "FaxFilter" "receiver" "LFaxFilter$Receiver;", Cond.fieldLink RX7 30 "FaxFilter" "picture" "LFaxFilter$Picture;", Cond.fieldLink RX7 92 "FaxFilter$Picture" "rows" "I", Cond.methodLink RX7 141 yX3_begin, Cond.instanceMethod yX3_begin, Cond.selects RX3 yX3_begin yX3_begin, Cond.initialized RX3, Cond.code yX3_begin cX3_begin 1 none, Cond.fieldLink RX3 26 "FaxFilter$Receiver" "in" "LFaxFilter$BitsIn;", Cond.fieldLink RX3 15 "FaxFilter$Receiver" "picture" "LFaxFilter$Picture;", Cond.fieldLink RX3 35 "FaxFilter$Picture" "rows" "I", Cond.fieldLink RX3 41 "FaxFilter$Receiver" "damaged" "I", Cond.methodLink RX3 30 yX0_restart, Cond.instanceMethod yX0_restart, Cond.selects RX0 yX0_restart yX0_restart, Cond.initialized RX0]
def wsL_read_r2 : List Cond := [Cond.code yX0_restart cX0_restart 1 none, Cond.fieldLink RX0 19 "FaxFilter$BitsIn" "passed" "I", Cond.methodLink RX7 144 yX3_reachRow, Cond.instanceMethod yX3_reachRow, Cond.selects RX3 yX3_reachRow yX3_reachRow, Cond.code yX3_reachRow cX3_reachRow 3 (some .boolean), Cond.fieldLink RX3 9 "FaxFilter$Receiver" "settings" "LFaxFilter$Settings;", Cond.fieldLink RX3 53 "FaxFilter$Settings" "kind" "I", Cond.fieldLink RX3 56 "FaxFilter$Receiver" "isPlain" "Z", Cond.fieldLink RX3 72 "FaxFilter$Settings" "aligned" "Z", Cond.methodLink RX3 44 yX5_hasMarks, Cond.instanceMethod yX5_hasMarks, Cond.selects RX5 yX5_hasMarks yX5_hasMarks, Cond.initialized RX5, Cond.code yX5_hasMarks cX5_hasMarks 1 (some .boolean), Cond.fieldLink RX5 9 "FaxFilter$Settings" "kind" "I", Cond.fieldLink RX5 15 "FaxFilter$Settings" "marks" "Z", Cond.methodLink RX3 50 yX0_passMark, Cond.instanceMethod yX0_passMark, Cond.selects RX0 yX0_passMark yX0_passMark, Cond.code yX0_passMark cX0_passMark 5 (some .boolean), Cond.fieldLink RX0 15 "FaxFilter$BitsIn" "size" "I", Cond.methodLink RX0 40 yX0_bitAt, Cond.instanceMethod yX0_bitAt]
def wsL_read_r3 : List Cond := [Cond.selects RX0 yX0_bitAt yX0_bitAt, Cond.code yX0_bitAt cX0_bitAt 2 (some .int), Cond.methodLink RX0 36 yX0_byteAt, Cond.instanceMethod yX0_byteAt, Cond.selects RX0 yX0_byteAt yX0_byteAt, Cond.code yX0_byteAt cX0_byteAt 2 (some .int), Cond.fieldLink RX0 9 "FaxFilter$BitsIn" "bytes" "[B", Cond.methodLink RX3 60 yX0_left, Cond.instanceMethod yX0_left, Cond.selects RX0 yX0_left yX0_left, Cond.code yX0_left cX0_left 1 (some .int), Cond.methodLink RX3 64 yX0_peek, Cond.instanceMethod yX0_peek, Cond.selects RX0 yX0_peek yX0_peek, Cond.code yX0_peek cX0_peek 4 (some .int), Cond.methodLink RX3 68 yX0_pass, Cond.instanceMethod yX0_pass, Cond.selects RX0 yX0_pass yX0_pass, Cond.code yX0_pass cX0_pass 2 none, Cond.methodLink RX0 26 Lib.Math.min.name, Cond.static Lib.Math.min.name, Cond.initialized "java/lang/Math", Cond.code Lib.Math.min.name Lib.Math.min.code 2 (some .int), Cond.methodLink RX0 22 yX0_left]
def wsL_read_r4 : List Cond := [Cond.methodLink RX3 75 yX0_passToByte, Cond.instanceMethod yX0_passToByte, Cond.selects RX0 yX0_passToByte yX0_passToByte, Cond.code yX0_passToByte cX0_passToByte 1 none, Cond.methodLink RX0 32 yX0_pass, Cond.methodLink RX3 78 yX0_isMarkNext, Cond.instanceMethod yX0_isMarkNext, Cond.selects RX0 yX0_isMarkNext yX0_isMarkNext, Cond.code yX0_isMarkNext cX0_isMarkNext 2 (some .boolean), Cond.methodLink RX0 43 yX0_zeros, Cond.instanceMethod yX0_zeros, Cond.selects RX0 yX0_zeros yX0_zeros, Cond.code yX0_zeros cX0_zeros 3 (some .int), Cond.methodLink RX7 148 yX3_readRow, Cond.instanceMethod yX3_readRow, Cond.selects RX3 yX3_readRow yX3_readRow, Cond.code yX3_readRow cX3_readRow 3 (some .boolean), Cond.fieldLink RX3 84 "FaxFilter$Receiver" "reached" "I", Cond.fieldLink RX3 87 "FaxFilter$Receiver" "isCut" "Z", Cond.fieldLink RX3 96 "FaxFilter$Settings" "repeatDamaged" "Z", Cond.methodLink RX3 81 yX2_whiten, Cond.instanceMethod yX2_whiten, Cond.selects RX2 yX2_whiten yX2_whiten, Cond.initialized RX2]
def wsL_read_r5 : List Cond := [Cond.code yX2_whiten cX2_whiten 2 none, Cond.fieldLink RX2 15 "FaxFilter$Picture" "columns" "I", Cond.methodLink RX2 29 yX2_paint, Cond.instanceMethod yX2_paint, Cond.selects RX2 yX2_paint yX2_paint, Cond.code yX2_paint cX2_paint 13 none, Cond.constantLong RX2 41 (-1), Cond.methodLink RX2 43 Lib.Math.max.name, Cond.static Lib.Math.max.name, Cond.code Lib.Math.max.name Lib.Math.max.code 2 (some .int), Cond.methodLink RX2 48 Lib.Math.min.name, Cond.fieldLink RX2 22 "FaxFilter$Picture" "words" "[J", Cond.methodLink RX2 33 yX2_indexOf, Cond.instanceMethod yX2_indexOf, Cond.selects RX2 yX2_indexOf yX2_indexOf, Cond.code yX2_indexOf cX2_indexOf 4 (some .int), Cond.fieldLink RX2 19 "FaxFilter$Picture" "wide" "I", Cond.methodLink RX3 90 yX3_readPlain, Cond.instanceMethod yX3_readPlain, Cond.selects RX3 yX3_readPlain yX3_readPlain, Cond.code yX3_readPlain cX3_readPlain 5 (some .int), Cond.fieldLink RX3 105 "FaxFilter$Picture" "columns" "I", Cond.methodLink RX3 108 yX3_readRun, Cond.instanceMethod yX3_readRun]
def wsL_read_r6 : List Cond := [Cond.selects RX3 yX3_readRun yX3_readRun, Cond.code yX3_readRun cX3_readRun 8 (some .int), Cond.fieldLink RX3 23 "FaxFilter$Receiver" "darkTable" "LFaxFilter$Table;", Cond.fieldLink RX3 19 "FaxFilter$Receiver" "whiteTable" "LFaxFilter$Table;", Cond.methodLink RX3 153 yX6_slotBeginning, Cond.instanceMethod yX6_slotBeginning, Cond.selects RX6 yX6_slotBeginning yX6_slotBeginning, Cond.initialized RX6, Cond.code yX6_slotBeginning cX6_slotBeginning 3 (some .int), Cond.fieldLink RX6 21 "FaxFilter$Table" "floors" "[I", Cond.fieldLink RX6 18 "FaxFilter$Table" "ordered" "[I", Cond.methodLink RX3 158 yX6_bitsOf, Cond.instanceMethod yX6_bitsOf, Cond.selects RX6 yX6_bitsOf yX6_bitsOf, Cond.code yX6_bitsOf cX6_bitsOf 2 (some .int), Cond.fieldLink RX6 11 "FaxFilter$Table" "bits" "[I", Cond.methodLink RX3 161 yX6_runOf, Cond.static yX6_runOf, Cond.code yX6_runOf cX6_runOf 1 (some .int), Cond.methodLink RX3 112 yX3_plainStateWithout, Cond.instanceMethod yX3_plainStateWithout, Cond.selects RX3 yX3_plainStateWithout yX3_plainStateWithout, Cond.code yX3_plainStateWithout cX3_plainStateWithout 2 (some .int), Cond.methodLink RX3 119 yX0_zeros]
def wsL_read_r7 : List Cond := [Cond.methodLink RX3 115 yX3_layTo, Cond.instanceMethod yX3_layTo, Cond.selects RX3 yX3_layTo yX3_layTo, Cond.code yX3_layTo cX3_layTo 5 none, Cond.methodLink RX3 136 Lib.Math.min.name, Cond.methodLink RX3 142 yX2_paint, Cond.methodLink RX3 93 yX3_readDrawn, Cond.instanceMethod yX3_readDrawn, Cond.selects RX3 yX3_readDrawn yX3_readDrawn, Cond.code yX3_readDrawn cX3_readDrawn 8 (some .int), Cond.methodLink RX3 122 yX3_readWay, Cond.instanceMethod yX3_readWay, Cond.selects RX3 yX3_readWay yX3_readWay, Cond.code yX3_readWay cX3_readWay 3 (some .int), Cond.methodLink RX3 125 yX3_layAcross, Cond.instanceMethod yX3_layAcross, Cond.selects RX3 yX3_layAcross yX3_layAcross, Cond.code yX3_layAcross cX3_layAcross 5 (some .int), Cond.methodLink RX3 129 yX2_changeTo, Cond.instanceMethod yX2_changeTo, Cond.selects RX2 yX2_changeTo yX2_changeTo, Cond.code yX2_changeTo cX2_changeTo 5 (some .int), Cond.methodLink RX2 57 yX2_isDark, Cond.instanceMethod yX2_isDark]
def wsL_read_r8 : List Cond := [Cond.selects RX2 yX2_isDark yX2_isDark, Cond.code yX2_isDark cX2_isDark 3 (some .boolean), Cond.methodLink RX2 37 yX2_wordOf, Cond.instanceMethod yX2_wordOf, Cond.selects RX2 yX2_wordOf yX2_wordOf, Cond.code yX2_wordOf cX2_wordOf 4 (some .long), Cond.methodLink RX2 61 yX2_nextOf, Cond.instanceMethod yX2_nextOf, Cond.selects RX2 yX2_nextOf yX2_nextOf, Cond.code yX2_nextOf cX2_nextOf 10 (some .int), Cond.methodLink RX2 51 yJ13_bitCount_95d88, Cond.static yJ13_bitCount_95d88, Cond.initialized RJ13, Cond.code yJ13_bitCount_95d88 cJ13_bitCount_95d88 2 (some .int), Cond.constantLong RJ13 314 (6148914691236517205), Cond.constantLong RJ13 316 (3689348814741910323), Cond.constantLong RJ13 318 (1085102592571150095), Cond.methodLink RX3 133 yX2_nextOf, Cond.methodLink RX3 99 yX2_copyAbove, Cond.instanceMethod yX2_copyAbove, Cond.selects RX2 yX2_copyAbove yX2_copyAbove, Cond.code yX2_copyAbove cX2_copyAbove 4 none, Cond.methodLink RX3 102 yX2_keep, Cond.instanceMethod yX2_keep]
def wsL_read_r9 : List Cond := [Cond.selects RX2 yX2_keep yX2_keep, Cond.code yX2_keep cX2_keep 2 none, Cond.fieldLink RX2 26 "FaxFilter$Picture" "rows" "I", Cond.fieldLink RX2 9 "FaxFilter$Picture" "states" "[I"]
def wsL_read : List Cond := .codeWith yL_read cL_read 4 (some .int) [(0, 9, 12, 13)] :: ((wsL_read_r1 ++ (wsL_read_r2 ++ (wsL_read_r3 ++ (wsL_read_r4 ++ (wsL_read_r5 ++ (wsL_read_r6 ++ (wsL_read_r7 ++ (wsL_read_r8 ++ wsL_read_r9)))))))) ++ wsX70 ++ wsX20 ++ wsX30 ++ wsX00 ++ wsX50 ++ wsX60 ++ (vx_atM "java/lang/ArrayIndexOutOfBoundsException" ["java/lang/IndexOutOfBoundsException", "java/lang/RuntimeException", "java/lang/Exception"]).filter goodWord ++ (vx_atS RX7 111 "java/lang/IllegalArgumentException" ["java/lang/RuntimeException", "java/lang/Exception"]).filter goodWord)
def wsL_state : List Cond := .codeWith yL_state cL_state 4 (some .int) [(0, 9, 12, 25)] :: ([.classLink RL 25 "java/lang/ArrayIndexOutOfBoundsException", .methodLink RL 22 yX7_state, .instanceMethod yX7_state, .selects RX7 yX7_state yX7_state, .initialized RX7, .code yX7_state cX7_state 2 (some .int), .fieldLink RX7 30 "FaxFilter" "picture" "LFaxFilter$Picture;", .classLink RX7 155 RJx00060, .instantiable RJx00060 6, .initialized RJx00060, .methodLink RX7 151 yX2_has, .instanceMethod yX2_has, .selects RX2 yX2_has yX2_has, .initialized RX2, .code yX2_has cX2_has 2 (some .boolean), .fieldLink RX2 26 "FaxFilter$Picture" "rows" "I", .methodLink RX7 160 yX2_stateOf, .instanceMethod yX2_stateOf, .selects RX2 yX2_stateOf yX2_stateOf, .code yX2_stateOf cX2_stateOf 2 (some .int), .fieldLink RX2 9 "FaxFilter$Picture" "states" "[I"] ++ wsX70 ++ wsJx000600 ++ wsX20 ++ (vx_atM "java/lang/ArrayIndexOutOfBoundsException" ["java/lang/IndexOutOfBoundsException", "java/lang/RuntimeException", "java/lang/Exception"]).filter goodWord)
def wsL_row_r1 : List Cond := [Cond.classLink RL 31 "java/lang/UnsupportedOperationException", Cond.methodLink RL 27 yX7_row, Cond.instanceMethod yX7_row, Cond.selects RX7 yX7_row yX7_row, Cond.initialized RX7, Cond.code yX7_row cX7_row 2 (some .int), Cond.classLink RX7 163 "java/lang/UnsupportedOperationException", Cond.initialized "java/lang/UnsupportedOperationException", Cond.fieldLink RX7 30 "FaxFilter" "picture" "LFaxFilter$Picture;", Cond.fieldLink RX7 92 "FaxFilter$Picture" "rows" "I", Cond.methodLink RX7 168 yX2_whiten, Cond.instanceMethod yX2_whiten, Cond.selects RX2 yX2_whiten yX2_whiten, Cond.initialized RX2, Cond.code yX2_whiten cX2_whiten 2 none, Cond.fieldLink RX2 15 "FaxFilter$Picture" "columns" "I", Cond.methodLink RX2 29 yX2_paint, Cond.instanceMethod yX2_paint, Cond.selects RX2 yX2_paint yX2_paint, Cond.code yX2_paint cX2_paint 13 none, Cond.constantLong RX2 41 (-1), Cond.methodLink RX2 43 Lib.Math.max.name, Cond.static Lib.Math.max.name, Cond.initialized "java/lang/Math"]
def wsL_row_r2 : List Cond := [Cond.code Lib.Math.max.name Lib.Math.max.code 2 (some .int), Cond.methodLink RX2 48 Lib.Math.min.name, Cond.static Lib.Math.min.name, Cond.code Lib.Math.min.name Lib.Math.min.code 2 (some .int), Cond.fieldLink RX2 22 "FaxFilter$Picture" "words" "[J", Cond.methodLink RX2 33 yX2_indexOf, Cond.instanceMethod yX2_indexOf, Cond.selects RX2 yX2_indexOf yX2_indexOf, Cond.code yX2_indexOf cX2_indexOf 4 (some .int), Cond.fieldLink RX2 19 "FaxFilter$Picture" "wide" "I", Cond.methodLink RX7 171 yX2_keep, Cond.instanceMethod yX2_keep, Cond.selects RX2 yX2_keep yX2_keep, Cond.code yX2_keep cX2_keep 2 none, Cond.fieldLink RX2 26 "FaxFilter$Picture" "rows" "I", Cond.fieldLink RX2 9 "FaxFilter$Picture" "states" "[I"]
def wsL_row : List Cond := .codeWith yL_row cL_row 3 (some .int) [(0, 8, 11, 31)] :: ((wsL_row_r1 ++ wsL_row_r2) ++ wsX70 ++ wsX20 ++ (vx_atM "java/lang/ArrayIndexOutOfBoundsException" ["java/lang/IndexOutOfBoundsException", "java/lang/RuntimeException", "java/lang/Exception"]).filter goodWord ++ (vx_atS RX7 167 "java/lang/UnsupportedOperationException" ["java/lang/RuntimeException", "java/lang/Exception"]).filter goodWord)
def wsL_put_r1 : List Cond := [Cond.classLink RL 25 "java/lang/ArrayIndexOutOfBoundsException", Cond.classLink RL 13 "java/lang/IllegalArgumentException", Cond.methodLink RL 33 yX7_put, Cond.instanceMethod yX7_put, Cond.selects RX7 yX7_put yX7_put, Cond.initialized RX7, Cond.code yX7_put cX7_put 5 none, Cond.classLink RX7 107 "java/lang/IllegalArgumentException", Cond.initialized "java/lang/IllegalArgumentException", Cond.fieldLink RX7 30 "FaxFilter" "picture" "LFaxFilter$Picture;", Cond.classLink RX7 155 RJx00060, Cond.instantiable RJx00060 6, Cond.initialized RJx00060, Cond.fieldLink RX7 62 "FaxFilter$Picture" "columns" "I", Cond.methodLink RX7 151 yX2_has, Cond.instanceMethod yX2_has, Cond.selects RX2 yX2_has yX2_has, Cond.initialized RX2, Cond.code yX2_has cX2_has 2 (some .boolean), Cond.fieldLink RX2 26 "FaxFilter$Picture" "rows" "I", Cond.methodLink RX7 176 yX2_paint, Cond.instanceMethod yX2_paint, Cond.selects RX2 yX2_paint yX2_paint, Cond.code yX2_paint cX2_paint 13 none]
def wsL_put_r2 : List Cond := [Cond.fieldLink RX2 15 "FaxFilter$Picture" "columns" "I", Cond.constantLong RX2 41 (-1), Cond.methodLink RX2 43 Lib.Math.max.name, Cond.static Lib.Math.max.name, Cond.initialized "java/lang/Math", Cond.code Lib.Math.max.name Lib.Math.max.code 2 (some .int), Cond.methodLink RX2 48 Lib.Math.min.name, Cond.static Lib.Math.min.name, Cond.code Lib.Math.min.name Lib.Math.min.code 2 (some .int), Cond.fieldLink RX2 22 "FaxFilter$Picture" "words" "[J", Cond.methodLink RX2 33 yX2_indexOf, Cond.instanceMethod yX2_indexOf, Cond.selects RX2 yX2_indexOf yX2_indexOf, Cond.code yX2_indexOf cX2_indexOf 4 (some .int), Cond.fieldLink RX2 19 "FaxFilter$Picture" "wide" "I", Cond.methodLink RX7 180 yX2_mend, Cond.instanceMethod yX2_mend, Cond.selects RX2 yX2_mend yX2_mend, Cond.code yX2_mend cX2_mend 2 none, Cond.fieldLink RX2 9 "FaxFilter$Picture" "states" "[I"]
def wsL_put : List Cond := .codeWith yL_put cL_put 6 (some .int) [(0, 9, 12, 25), (0, 9, 16, 13)] :: ((wsL_put_r1 ++ wsL_put_r2) ++ wsX70 ++ wsJx000600 ++ wsX20 ++ (vx_atS RX7 111 "java/lang/IllegalArgumentException" ["java/lang/RuntimeException", "java/lang/Exception"]).filter goodWord ++ (vx_atM "java/lang/ArrayIndexOutOfBoundsException" ["java/lang/IndexOutOfBoundsException", "java/lang/RuntimeException", "java/lang/Exception"]).filter goodWord)
def wsL_bit_r1 : List Cond := [Cond.classLink RL 25 "java/lang/ArrayIndexOutOfBoundsException", Cond.methodLink RL 37 yX7_bit, Cond.instanceMethod yX7_bit, Cond.selects RX7 yX7_bit yX7_bit, Cond.initialized RX7, Cond.code yX7_bit cX7_bit 3 (some .int), Cond.fieldLink RX7 30 "FaxFilter" "picture" "LFaxFilter$Picture;", Cond.fieldLink RX7 62 "FaxFilter$Picture" "columns" "I", Cond.classLink RX7 155 RJx00060, Cond.instantiable RJx00060 6, Cond.initialized RJx00060, Cond.fieldLink RX7 23 "FaxFilter" "settings" "LFaxFilter$Settings;", Cond.fieldLink RX7 121 "FaxFilter$Settings" "darkIsZero" "Z", Cond.methodLink RX7 151 yX2_has, Cond.instanceMethod yX2_has, Cond.selects RX2 yX2_has yX2_has, Cond.initialized RX2, Cond.code yX2_has cX2_has 2 (some .boolean), Cond.fieldLink RX2 26 "FaxFilter$Picture" "rows" "I", Cond.methodLink RX7 185 yX2_isDark, Cond.instanceMethod yX2_isDark, Cond.selects RX2 yX2_isDark yX2_isDark, Cond.code yX2_isDark cX2_isDark 3 (some .boolean), Cond.fieldLink RX2 15 "FaxFilter$Picture" "columns" "I"]
def wsL_bit_r2 : List Cond := [Cond.methodLink RX2 37 yX2_wordOf, Cond.instanceMethod yX2_wordOf, Cond.selects RX2 yX2_wordOf yX2_wordOf, Cond.code yX2_wordOf cX2_wordOf 4 (some .long), Cond.fieldLink RX2 22 "FaxFilter$Picture" "words" "[J", Cond.methodLink RX2 33 yX2_indexOf, Cond.instanceMethod yX2_indexOf, Cond.selects RX2 yX2_indexOf yX2_indexOf, Cond.code yX2_indexOf cX2_indexOf 4 (some .int), Cond.fieldLink RX2 19 "FaxFilter$Picture" "wide" "I"]
def wsL_bit : List Cond := .codeWith yL_bit cL_bit 5 (some .int) [(0, 10, 13, 25)] :: ((wsL_bit_r1 ++ wsL_bit_r2) ++ wsX70 ++ wsX20 ++ wsJx000600 ++ wsX50 ++ (vx_atM "java/lang/ArrayIndexOutOfBoundsException" ["java/lang/IndexOutOfBoundsException", "java/lang/RuntimeException", "java/lang/Exception"]).filter goodWord)
def wsL_run_r1 : List Cond := [Cond.classLink RL 25 "java/lang/ArrayIndexOutOfBoundsException", Cond.methodLink RL 41 yX7_run, Cond.instanceMethod yX7_run, Cond.selects RX7 yX7_run yX7_run, Cond.initialized RX7, Cond.code yX7_run cX7_run 4 (some .int), Cond.fieldLink RX7 30 "FaxFilter" "picture" "LFaxFilter$Picture;", Cond.classLink RX7 155 RJx00060, Cond.instantiable RJx00060 6, Cond.initialized RJx00060, Cond.methodLink RX7 151 yX2_has, Cond.instanceMethod yX2_has, Cond.selects RX2 yX2_has yX2_has, Cond.initialized RX2, Cond.code yX2_has cX2_has 2 (some .boolean), Cond.fieldLink RX2 26 "FaxFilter$Picture" "rows" "I", Cond.methodLink RX7 189 yX2_lengthOfRun, Cond.instanceMethod yX2_lengthOfRun, Cond.selects RX2 yX2_lengthOfRun yX2_lengthOfRun, Cond.code yX2_lengthOfRun cX2_lengthOfRun 7 (some .int), Cond.fieldLink RX2 15 "FaxFilter$Picture" "columns" "I", Cond.methodLink RX2 61 yX2_nextOf, Cond.instanceMethod yX2_nextOf, Cond.selects RX2 yX2_nextOf yX2_nextOf]
def wsL_run_r2 : List Cond := [Cond.code yX2_nextOf cX2_nextOf 10 (some .int), Cond.methodLink RX2 43 Lib.Math.max.name, Cond.static Lib.Math.max.name, Cond.initialized "java/lang/Math", Cond.code Lib.Math.max.name Lib.Math.max.code 2 (some .int), Cond.constantLong RX2 41 (-1), Cond.methodLink RX2 48 Lib.Math.min.name, Cond.static Lib.Math.min.name, Cond.code Lib.Math.min.name Lib.Math.min.code 2 (some .int), Cond.methodLink RX2 37 yX2_wordOf, Cond.instanceMethod yX2_wordOf, Cond.selects RX2 yX2_wordOf yX2_wordOf, Cond.code yX2_wordOf cX2_wordOf 4 (some .long), Cond.fieldLink RX2 22 "FaxFilter$Picture" "words" "[J", Cond.methodLink RX2 33 yX2_indexOf, Cond.instanceMethod yX2_indexOf, Cond.selects RX2 yX2_indexOf yX2_indexOf, Cond.code yX2_indexOf cX2_indexOf 4 (some .int), Cond.fieldLink RX2 19 "FaxFilter$Picture" "wide" "I", Cond.methodLink RX2 51 yJ13_bitCount_95d88, Cond.static yJ13_bitCount_95d88, Cond.initialized RJ13, Cond.code yJ13_bitCount_95d88 cJ13_bitCount_95d88 2 (some .int), Cond.constantLong RJ13 314 (6148914691236517205)]
def wsL_run_r3 : List Cond := [Cond.constantLong RJ13 316 (3689348814741910323), Cond.constantLong RJ13 318 (1085102592571150095)]
def wsL_run : List Cond := .codeWith yL_run cL_run 5 (some .int) [(0, 10, 13, 25)] :: ((wsL_run_r1 ++ (wsL_run_r2 ++ wsL_run_r3)) ++ wsX70 ++ wsJx000600 ++ wsX20 ++ (vx_atM "java/lang/ArrayIndexOutOfBoundsException" ["java/lang/IndexOutOfBoundsException", "java/lang/RuntimeException", "java/lang/Exception"]).filter goodWord)
def wsL_runs_r1 : List Cond := [Cond.classLink RL 25 "java/lang/ArrayIndexOutOfBoundsException", Cond.methodLink RL 44 yX7_runs, Cond.instanceMethod yX7_runs, Cond.selects RX7 yX7_runs yX7_runs, Cond.initialized RX7, Cond.code yX7_runs cX7_runs 2 (some .int), Cond.fieldLink RX7 30 "FaxFilter" "picture" "LFaxFilter$Picture;", Cond.classLink RX7 155 RJx00060, Cond.instantiable RJx00060 6, Cond.initialized RJx00060, Cond.methodLink RX7 151 yX2_has, Cond.instanceMethod yX2_has, Cond.selects RX2 yX2_has yX2_has, Cond.initialized RX2, Cond.code yX2_has cX2_has 2 (some .boolean), Cond.fieldLink RX2 26 "FaxFilter$Picture" "rows" "I", Cond.methodLink RX7 194 yX2_countRuns, Cond.instanceMethod yX2_countRuns, Cond.selects RX2 yX2_countRuns yX2_countRuns, Cond.code yX2_countRuns cX2_countRuns 5 (some .int), Cond.fieldLink RX2 15 "FaxFilter$Picture" "columns" "I", Cond.methodLink RX2 61 yX2_nextOf, Cond.instanceMethod yX2_nextOf, Cond.selects RX2 yX2_nextOf yX2_nextOf]
def wsL_runs_r2 : List Cond := [Cond.code yX2_nextOf cX2_nextOf 10 (some .int), Cond.methodLink RX2 43 Lib.Math.max.name, Cond.static Lib.Math.max.name, Cond.initialized "java/lang/Math", Cond.code Lib.Math.max.name Lib.Math.max.code 2 (some .int), Cond.constantLong RX2 41 (-1), Cond.methodLink RX2 48 Lib.Math.min.name, Cond.static Lib.Math.min.name, Cond.code Lib.Math.min.name Lib.Math.min.code 2 (some .int), Cond.methodLink RX2 37 yX2_wordOf, Cond.instanceMethod yX2_wordOf, Cond.selects RX2 yX2_wordOf yX2_wordOf, Cond.code yX2_wordOf cX2_wordOf 4 (some .long), Cond.fieldLink RX2 22 "FaxFilter$Picture" "words" "[J", Cond.methodLink RX2 33 yX2_indexOf, Cond.instanceMethod yX2_indexOf, Cond.selects RX2 yX2_indexOf yX2_indexOf, Cond.code yX2_indexOf cX2_indexOf 4 (some .int), Cond.fieldLink RX2 19 "FaxFilter$Picture" "wide" "I", Cond.methodLink RX2 51 yJ13_bitCount_95d88, Cond.static yJ13_bitCount_95d88, Cond.initialized RJ13, Cond.code yJ13_bitCount_95d88 cJ13_bitCount_95d88 2 (some .int), Cond.constantLong RJ13 314 (6148914691236517205)]
def wsL_runs_r3 : List Cond := [Cond.constantLong RJ13 316 (3689348814741910323), Cond.constantLong RJ13 318 (1085102592571150095)]
def wsL_runs : List Cond := .codeWith yL_runs cL_runs 4 (some .int) [(0, 9, 12, 25)] :: ((wsL_runs_r1 ++ (wsL_runs_r2 ++ wsL_runs_r3)) ++ wsX70 ++ wsJx000600 ++ wsX20 ++ (vx_atM "java/lang/ArrayIndexOutOfBoundsException" ["java/lang/IndexOutOfBoundsException", "java/lang/RuntimeException", "java/lang/Exception"]).filter goodWord)
def wsL_octet : List Cond := .codeWith yL_octet cL_octet 4 (some .int) [(0, 9, 12, 25)] :: ([.classLink RL 25 "java/lang/ArrayIndexOutOfBoundsException", .methodLink RL 47 yX7_octet, .instanceMethod yX7_octet, .selects RX7 yX7_octet yX7_octet, .initialized RX7, .code yX7_octet cX7_octet 2 (some .int), .fieldLink RX7 67 "FaxFilter" "written" "LFaxFilter$BitsOut;", .classLink RX7 155 RJx00060, .instantiable RJx00060 6, .initialized RJx00060, .methodLink RX7 98 yX1_size, .instanceMethod yX1_size, .selects RX1 yX1_size yX1_size, .initialized RX1, .code yX1_size cX1_size 1 (some .int), .fieldLink RX1 15 "FaxFilter$BitsOut" "bits" "I", .methodLink RX7 135 yX1_byteAt, .instanceMethod yX1_byteAt, .selects RX1 yX1_byteAt yX1_byteAt, .code yX1_byteAt cX1_byteAt 2 (some .int), .fieldLink RX1 9 "FaxFilter$BitsOut" "bytes" "[B"] ++ wsX70 ++ wsJx000600 ++ wsX10 ++ (vx_atM "java/lang/ArrayIndexOutOfBoundsException" ["java/lang/IndexOutOfBoundsException", "java/lang/RuntimeException", "java/lang/Exception"]).filter goodWord)
def wsL_code_r1 : List Cond := [Cond.classLink RL 13 "java/lang/IllegalArgumentException", Cond.methodLink RL 50 yX7_code, Cond.instanceMethod yX7_code, Cond.selects RX7 yX7_code yX7_code, Cond.initialized RX7, Cond.code yX7_code cX7_code 5 (some .int), Cond.classLink RX7 107 "java/lang/IllegalArgumentException", Cond.initialized "java/lang/IllegalArgumentException", Cond.fieldLink RX7 50 "FaxFilter" "darkTable" "LFaxFilter$Table;", Cond.fieldLink RX7 43 "FaxFilter" "whiteTable" "LFaxFilter$Table;", Cond.constant RX7 210 (65536), Cond.methodLink RX7 202 yX6_slotOf, Cond.static yX6_slotOf, Cond.initialized RX6, Cond.code yX6_slotOf cX6_slotOf 1 (some .int), Cond.methodLink RX6 24 yX6_slotOfMake, Cond.static yX6_slotOfMake, Cond.code yX6_slotOfMake cX6_slotOfMake 1 (some .int), Cond.methodLink RX7 207 yX6_bitsOf, Cond.instanceMethod yX6_bitsOf, Cond.selects RX6 yX6_bitsOf yX6_bitsOf, Cond.code yX6_bitsOf cX6_bitsOf 2 (some .int), Cond.fieldLink RX6 11 "FaxFilter$Table" "bits" "[I", Cond.methodLink RX7 211 yX6_codeOf]
def wsL_code_r2 : List Cond := [Cond.instanceMethod yX6_codeOf, Cond.selects RX6 yX6_codeOf yX6_codeOf, Cond.code yX6_codeOf cX6_codeOf 2 (some .int), Cond.fieldLink RX6 15 "FaxFilter$Table" "codes" "[I"]
def wsL_code : List Cond := .codeWith yL_code cL_code 5 (some .int) [(0, 10, 13, 13)] :: ((wsL_code_r1 ++ wsL_code_r2) ++ wsX70 ++ wsX60 ++ (vx_atM "java/lang/ArrayIndexOutOfBoundsException" ["java/lang/IndexOutOfBoundsException", "java/lang/RuntimeException", "java/lang/Exception"]).filter goodWord ++ (vx_atS RX7 111 "java/lang/IllegalArgumentException" ["java/lang/RuntimeException", "java/lang/Exception"]).filter goodWord)
def wsL_law0_r1 : List Cond := [Cond.classLink RL 8 RX7, Cond.instantiable RX7 8, Cond.initialized RX7, Cond.classLink RL 63 RX8, Cond.instantiable RX8 22, Cond.initialized RX8, Cond.arrayClass .long, Cond.constantLong RL 77 (4294967295), Cond.methodLink RL 54 yL_cell, Cond.static yL_cell, Cond.initialized RL, Cond.code yL_cell cL_cell 2 (some .int), Cond.methodLink RL 60 yX7_init, Cond.instanceMethod yX7_init, Cond.code yX7_init cX7_init 3 none, Cond.methodLink RX7 3 objectInit, Cond.instanceMethod objectInit, Cond.code objectInit ⟨#[0xb1]⟩ 1 none, Cond.classLink RX7 9 RX5, Cond.instantiable RX5 5, Cond.initialized RX5, Cond.methodLink RX7 11 Lib.Math.min.name, Cond.static Lib.Math.min.name, Cond.initialized "java/lang/Math"]
def wsL_law0_r2 : List Cond := [Cond.code Lib.Math.min.name Lib.Math.min.code 2 (some .int), Cond.methodLink RX7 17 Lib.Math.max.name, Cond.static Lib.Math.max.name, Cond.code Lib.Math.max.name Lib.Math.max.code 2 (some .int), Cond.fieldLink RX7 23 "FaxFilter" "settings" "LFaxFilter$Settings;", Cond.classLink RX7 27 RX2, Cond.instantiable RX2 5, Cond.initialized RX2, Cond.fieldLink RX7 30 "FaxFilter" "picture" "LFaxFilter$Picture;", Cond.classLink RX7 34 RX6, Cond.instantiable RX6 4, Cond.initialized RX6, Cond.fieldLink RX7 36 "FaxFilter" "WHITE_BITS" "[B", Cond.fieldLink RX7 43 "FaxFilter" "whiteTable" "LFaxFilter$Table;", Cond.fieldLink RX7 47 "FaxFilter" "DARK_BITS" "[B", Cond.fieldLink RX7 50 "FaxFilter" "darkTable" "LFaxFilter$Table;", Cond.classLink RX7 53 RX0, Cond.instantiable RX0 3, Cond.initialized RX0, Cond.fieldLink RX7 56 "FaxFilter" "collected" "LFaxFilter$BitsIn;", Cond.classLink RX7 60 RX1, Cond.instantiable RX1 2, Cond.initialized RX1, Cond.fieldLink RX7 62 "FaxFilter$Picture" "columns" "I"]
def wsL_law0_r3 : List Cond := [Cond.fieldLink RX7 67 "FaxFilter" "written" "LFaxFilter$BitsOut;", Cond.classLink RX7 71 RX4, Cond.instantiable RX4 5, Cond.initialized RX4, Cond.fieldLink RX7 76 "FaxFilter" "sender" "LFaxFilter$Sender;", Cond.classLink RX7 80 RX3, Cond.instantiable RX3 9, Cond.initialized RX3, Cond.fieldLink RX7 85 "FaxFilter" "receiver" "LFaxFilter$Receiver;", Cond.methodLink RX7 20 yX5_init, Cond.instanceMethod yX5_init, Cond.code yX5_init cX5_init 2 none, Cond.methodLink RX5 3 objectInit, Cond.fieldLink RX5 9 "FaxFilter$Settings" "kind" "I", Cond.methodLink RX7 29 yX2_init, Cond.instanceMethod yX2_init, Cond.code yX2_init cX2_init 2 none, Cond.methodLink RX2 3 objectInit, Cond.arrayClass .int, Cond.fieldLink RX2 9 "FaxFilter$Picture" "states" "[I", Cond.fieldLink RX2 15 "FaxFilter$Picture" "columns" "I", Cond.fieldLink RX2 19 "FaxFilter$Picture" "wide" "I", Cond.fieldLink RX2 22 "FaxFilter$Picture" "words" "[J", Cond.methodLink RX7 40 yX6_init]
def wsL_law0_r4 : List Cond := [Cond.instanceMethod yX6_init, Cond.code yX6_init cX6_init 7 none, Cond.methodLink RX6 3 objectInit, Cond.fieldLink RX6 11 "FaxFilter$Table" "bits" "[I", Cond.fieldLink RX6 15 "FaxFilter$Table" "codes" "[I", Cond.fieldLink RX6 18 "FaxFilter$Table" "ordered" "[I", Cond.fieldLink RX6 21 "FaxFilter$Table" "floors" "[I", Cond.instanceMethod yX0_init, Cond.code yX0_init cX0_init 1 none, Cond.methodLink RX0 3 objectInit, Cond.arrayClass .byte, Cond.fieldLink RX0 9 "FaxFilter$BitsIn" "bytes" "[B", Cond.methodLink RX7 66 yX1_init, Cond.instanceMethod yX1_init, Cond.code yX1_init cX1_init 2 none, Cond.methodLink RX1 3 objectInit, Cond.fieldLink RX1 9 "FaxFilter$BitsOut" "bytes" "[B", Cond.methodLink RX7 73 yX4_init, Cond.instanceMethod yX4_init, Cond.code yX4_init cX4_init 6 none, Cond.methodLink RX4 3 objectInit, Cond.fieldLink RX4 9 "FaxFilter$Sender" "settings" "LFaxFilter$Settings;", Cond.fieldLink RX4 15 "FaxFilter$Sender" "picture" "LFaxFilter$Picture;", Cond.fieldLink RX4 19 "FaxFilter$Sender" "whiteTable" "LFaxFilter$Table;"]
def wsL_law0_r5 : List Cond := [Cond.fieldLink RX4 23 "FaxFilter$Sender" "darkTable" "LFaxFilter$Table;", Cond.fieldLink RX4 26 "FaxFilter$Sender" "out" "LFaxFilter$BitsOut;", Cond.methodLink RX7 82 yX3_init, Cond.instanceMethod yX3_init, Cond.code yX3_init cX3_init 6 none, Cond.methodLink RX3 3 objectInit, Cond.fieldLink RX3 9 "FaxFilter$Receiver" "settings" "LFaxFilter$Settings;", Cond.fieldLink RX3 15 "FaxFilter$Receiver" "picture" "LFaxFilter$Picture;", Cond.fieldLink RX3 19 "FaxFilter$Receiver" "whiteTable" "LFaxFilter$Table;", Cond.fieldLink RX3 23 "FaxFilter$Receiver" "darkTable" "LFaxFilter$Table;", Cond.fieldLink RX3 26 "FaxFilter$Receiver" "in" "LFaxFilter$BitsIn;", Cond.methodLink RL 65 yX8_init, Cond.instanceMethod yX8_init, Cond.code yX8_init cX8_init 3 none, Cond.methodLink RX8 1 objectInit, Cond.fieldLink RX8 7 "FaxFilterModel" "code" "[I", Cond.fieldLink RX8 13 "FaxFilterModel" "bits" "[I", Cond.arrayClass .boolean, Cond.fieldLink RX8 16 "FaxFilterModel" "settings" "[Z", Cond.fieldLink RX8 20 "FaxFilterModel" "dark" "[Z", Cond.fieldLink RX8 23 "FaxFilterModel" "states" "[I", Cond.fieldLink RX8 26 "FaxFilterModel" "bytes" "[I", Cond.constant RX8 29 (140000), Cond.fieldLink RX8 30 "FaxFilterModel" "out" "[Z"]
def wsL_law0_r6 : List Cond := [Cond.fieldLink RX8 33 "FaxFilterModel" "kind" "I", Cond.fieldLink RX8 37 "FaxFilterModel" "columns" "I", Cond.methodLink RX8 40 yX8_makeTable, Cond.instanceMethod yX8_makeTable, Cond.selects RX8 yX8_makeTable yX8_makeTable, Cond.code yX8_makeTable cX8_makeTable 5 none, Cond.methodLink RX8 51 yX8_isRun, Cond.static yX8_isRun, Cond.code yX8_isRun cX8_isRun 1 (some .boolean), Cond.methodLink RX8 55 yX8_bitsOf, Cond.static yX8_bitsOf, Cond.code yX8_bitsOf cX8_bitsOf 2 (some .int), Cond.methodLink RX8 47 yX8_in, Cond.static yX8_in, Cond.code yX8_in cX8_in 3 (some .boolean), Cond.methodLink RL 66 yL_told, Cond.static yL_told, Cond.codeWith yL_told cL_told 4 (some .int) [(0, 9, 12, 13)], Cond.classLink RL 13 "java/lang/IllegalArgumentException", Cond.methodLink RL 7 yX7_told, Cond.instanceMethod yX7_told, Cond.selects RX7 yX7_told yX7_told, Cond.code yX7_told cX7_told 2 (some .int), Cond.classLink RX7 107 "java/lang/IllegalArgumentException"]
def wsL_law0_r7 : List Cond := [Cond.initialized "java/lang/IllegalArgumentException", Cond.fieldLink RX7 89 "FaxFilter$Settings" "kind" "I", Cond.fieldLink RX7 92 "FaxFilter$Picture" "rows" "I", Cond.fieldLink RX7 95 "FaxFilter$BitsIn" "size" "I", Cond.fieldLink RX7 101 "FaxFilter$BitsIn" "passed" "I", Cond.fieldLink RX7 104 "FaxFilter$Receiver" "damaged" "I", Cond.methodLink RX7 98 yX1_size, Cond.instanceMethod yX1_size, Cond.selects RX1 yX1_size yX1_size, Cond.code yX1_size cX1_size 1 (some .int), Cond.fieldLink RX1 15 "FaxFilter$BitsOut" "bits" "I", Cond.methodLink RL 69 yX8_told, Cond.instanceMethod yX8_told, Cond.selects RX8 yX8_told yX8_told, Cond.code yX8_told cX8_told 2 (some .int), Cond.fieldLink RX8 44 "FaxFilterModel" "thrown" "I", Cond.fieldLink RX8 60 "FaxFilterModel" "rows" "I", Cond.fieldLink RX8 63 "FaxFilterModel" "collected" "I", Cond.fieldLink RX8 66 "FaxFilterModel" "written" "I", Cond.fieldLink RX8 69 "FaxFilterModel" "place" "I", Cond.fieldLink RX8 72 "FaxFilterModel" "damaged" "I", Cond.methodLink RL 70 yX8_thrown, Cond.instanceMethod yX8_thrown, Cond.selects RX8 yX8_thrown yX8_thrown]
def wsL_law0_r8 : List Cond := [Cond.code yX8_thrown cX8_thrown 1 (some .int), Cond.methodLink RL 73 yL_setting, Cond.static yL_setting, Cond.codeWith yL_setting cL_setting 4 (some .int) [(0, 6, 9, 13)], Cond.methodLink RL 15 yX7_setting, Cond.instanceMethod yX7_setting, Cond.selects RX7 yX7_setting yX7_setting, Cond.code yX7_setting cX7_setting 3 none, Cond.fieldLink RX7 114 "FaxFilter$Settings" "marks" "Z", Cond.fieldLink RX7 118 "FaxFilter$Settings" "aligned" "Z", Cond.fieldLink RX7 121 "FaxFilter$Settings" "darkIsZero" "Z", Cond.fieldLink RX7 124 "FaxFilter$Settings" "repeatDamaged" "Z", Cond.methodLink RL 76 yX8_setting, Cond.instanceMethod yX8_setting, Cond.selects RX8 yX8_setting yX8_setting, Cond.code yX8_setting cX8_setting 3 none, Cond.methodLink RL 79 yX7_add, Cond.instanceMethod yX7_add, Cond.selects RX7 yX7_add yX7_add, Cond.code yX7_add cX7_add 5 (some .boolean), Cond.methodLink RX7 129 yX0_append, Cond.instanceMethod yX0_append, Cond.selects RX0 yX0_append yX0_append, Cond.code yX0_append cX0_append 2 none]
def wsL_law0_r9 : List Cond := [Cond.fieldLink RX0 15 "FaxFilter$BitsIn" "size" "I", Cond.methodLink RL 83 yX8_add, Cond.instanceMethod yX8_add, Cond.selects RX8 yX8_add yX8_add, Cond.code yX8_add cX8_add 5 (some .boolean), Cond.constantLong RX8 75 (255), Cond.methodLink RL 84 yX7_take, Cond.instanceMethod yX7_take, Cond.selects RX7 yX7_take yX7_take, Cond.code yX7_take cX7_take 3 (some .int), Cond.methodLink RX7 132 yX0_empty, Cond.instanceMethod yX0_empty, Cond.selects RX0 yX0_empty yX0_empty, Cond.code yX0_empty cX0_empty 1 none, Cond.methodLink RX7 135 yX1_byteAt, Cond.instanceMethod yX1_byteAt, Cond.selects RX1 yX1_byteAt yX1_byteAt, Cond.code yX1_byteAt cX1_byteAt 2 (some .int), Cond.methodLink RL 87 yX8_take, Cond.instanceMethod yX8_take, Cond.selects RX8 yX8_take yX8_take, Cond.code yX8_take cX8_take 2 (some .int), Cond.methodLink RX8 77 yX8_byteOf, Cond.instanceMethod yX8_byteOf]
def wsL_law0_r10 : List Cond := [Cond.selects RX8 yX8_byteOf yX8_byteOf, Cond.code yX8_byteOf cX8_byteOf 4 (some .int), Cond.methodLink RL 88 yX7_drop, Cond.instanceMethod yX7_drop, Cond.selects RX7 yX7_drop yX7_drop, Cond.code yX7_drop cX7_drop 1 none, Cond.methodLink RL 91 yX8_drop, Cond.instanceMethod yX8_drop, Cond.selects RX8 yX8_drop yX8_drop, Cond.code yX8_drop cX8_drop 1 none, Cond.methodLink RL 92 yL_read, Cond.static yL_read, Cond.codeWith yL_read cL_read 4 (some .int) [(0, 9, 12, 13)], Cond.methodLink RL 19 yX7_read, Cond.instanceMethod yX7_read, Cond.selects RX7 yX7_read yX7_read, Cond.code yX7_read cX7_read 4 (some .int), Cond.methodLink RX7 141 yX3_begin, Cond.instanceMethod yX3_begin, Cond.selects RX3 yX3_begin yX3_begin, Cond.code yX3_begin cX3_begin 1 none, Cond.fieldLink RX3 35 "FaxFilter$Picture" "rows" "I", Cond.fieldLink RX3 41 "FaxFilter$Receiver" "damaged" "I", Cond.methodLink RX3 30 yX0_restart]
def wsL_law0_r11 : List Cond := [Cond.instanceMethod yX0_restart, Cond.selects RX0 yX0_restart yX0_restart, Cond.code yX0_restart cX0_restart 1 none, Cond.fieldLink RX0 19 "FaxFilter$BitsIn" "passed" "I", Cond.methodLink RX7 144 yX3_reachRow, Cond.instanceMethod yX3_reachRow, Cond.selects RX3 yX3_reachRow yX3_reachRow, Cond.code yX3_reachRow cX3_reachRow 3 (some .boolean), Cond.fieldLink RX3 53 "FaxFilter$Settings" "kind" "I", Cond.fieldLink RX3 56 "FaxFilter$Receiver" "isPlain" "Z", Cond.fieldLink RX3 72 "FaxFilter$Settings" "aligned" "Z", Cond.methodLink RX3 44 yX5_hasMarks, Cond.instanceMethod yX5_hasMarks, Cond.selects RX5 yX5_hasMarks yX5_hasMarks, Cond.code yX5_hasMarks cX5_hasMarks 1 (some .boolean), Cond.fieldLink RX5 15 "FaxFilter$Settings" "marks" "Z", Cond.methodLink RX3 50 yX0_passMark, Cond.instanceMethod yX0_passMark, Cond.selects RX0 yX0_passMark yX0_passMark, Cond.code yX0_passMark cX0_passMark 5 (some .boolean), Cond.methodLink RX0 40 yX0_bitAt, Cond.instanceMethod yX0_bitAt, Cond.selects RX0 yX0_bitAt yX0_bitAt, Cond.code yX0_bitAt cX0_bitAt 2 (some .int)]
def wsL_law0_r12 : List Cond := [Cond.methodLink RX0 36 yX0_byteAt, Cond.instanceMethod yX0_byteAt, Cond.selects RX0 yX0_byteAt yX0_byteAt, Cond.code yX0_byteAt cX0_byteAt 2 (some .int), Cond.methodLink RX3 60 yX0_left, Cond.instanceMethod yX0_left, Cond.selects RX0 yX0_left yX0_left, Cond.code yX0_left cX0_left 1 (some .int), Cond.methodLink RX3 64 yX0_peek, Cond.instanceMethod yX0_peek, Cond.selects RX0 yX0_peek yX0_peek, Cond.code yX0_peek cX0_peek 4 (some .int), Cond.methodLink RX3 68 yX0_pass, Cond.instanceMethod yX0_pass, Cond.selects RX0 yX0_pass yX0_pass, Cond.code yX0_pass cX0_pass 2 none, Cond.methodLink RX0 26 Lib.Math.min.name, Cond.methodLink RX0 22 yX0_left, Cond.methodLink RX3 75 yX0_passToByte, Cond.instanceMethod yX0_passToByte, Cond.selects RX0 yX0_passToByte yX0_passToByte, Cond.code yX0_passToByte cX0_passToByte 1 none, Cond.methodLink RX0 32 yX0_pass, Cond.methodLink RX3 78 yX0_isMarkNext]
def wsL_law0_r13 : List Cond := [Cond.instanceMethod yX0_isMarkNext, Cond.selects RX0 yX0_isMarkNext yX0_isMarkNext, Cond.code yX0_isMarkNext cX0_isMarkNext 2 (some .boolean), Cond.methodLink RX0 43 yX0_zeros, Cond.instanceMethod yX0_zeros, Cond.selects RX0 yX0_zeros yX0_zeros, Cond.code yX0_zeros cX0_zeros 3 (some .int), Cond.methodLink RX7 148 yX3_readRow, Cond.instanceMethod yX3_readRow, Cond.selects RX3 yX3_readRow yX3_readRow, Cond.code yX3_readRow cX3_readRow 3 (some .boolean), Cond.fieldLink RX3 84 "FaxFilter$Receiver" "reached" "I", Cond.fieldLink RX3 87 "FaxFilter$Receiver" "isCut" "Z", Cond.fieldLink RX3 96 "FaxFilter$Settings" "repeatDamaged" "Z", Cond.methodLink RX3 81 yX2_whiten, Cond.instanceMethod yX2_whiten, Cond.selects RX2 yX2_whiten yX2_whiten, Cond.code yX2_whiten cX2_whiten 2 none, Cond.methodLink RX2 29 yX2_paint, Cond.instanceMethod yX2_paint, Cond.selects RX2 yX2_paint yX2_paint, Cond.code yX2_paint cX2_paint 13 none, Cond.constantLong RX2 41 (-1), Cond.methodLink RX2 43 Lib.Math.max.name]
def wsL_law0_r14 : List Cond := [Cond.methodLink RX2 48 Lib.Math.min.name, Cond.methodLink RX2 33 yX2_indexOf, Cond.instanceMethod yX2_indexOf, Cond.selects RX2 yX2_indexOf yX2_indexOf, Cond.code yX2_indexOf cX2_indexOf 4 (some .int), Cond.methodLink RX3 90 yX3_readPlain, Cond.instanceMethod yX3_readPlain, Cond.selects RX3 yX3_readPlain yX3_readPlain, Cond.code yX3_readPlain cX3_readPlain 5 (some .int), Cond.fieldLink RX3 105 "FaxFilter$Picture" "columns" "I", Cond.methodLink RX3 108 yX3_readRun, Cond.instanceMethod yX3_readRun, Cond.selects RX3 yX3_readRun yX3_readRun, Cond.code yX3_readRun cX3_readRun 8 (some .int), Cond.methodLink RX3 153 yX6_slotBeginning, Cond.instanceMethod yX6_slotBeginning, Cond.selects RX6 yX6_slotBeginning yX6_slotBeginning, Cond.code yX6_slotBeginning cX6_slotBeginning 3 (some .int), Cond.methodLink RX3 158 yX6_bitsOf, Cond.instanceMethod yX6_bitsOf, Cond.selects RX6 yX6_bitsOf yX6_bitsOf, Cond.code yX6_bitsOf cX6_bitsOf 2 (some .int), Cond.methodLink RX3 161 yX6_runOf, Cond.static yX6_runOf]
def wsL_law0_r15 : List Cond := [Cond.code yX6_runOf cX6_runOf 1 (some .int), Cond.methodLink RX3 112 yX3_plainStateWithout, Cond.instanceMethod yX3_plainStateWithout, Cond.selects RX3 yX3_plainStateWithout yX3_plainStateWithout, Cond.code yX3_plainStateWithout cX3_plainStateWithout 2 (some .int), Cond.methodLink RX3 119 yX0_zeros, Cond.methodLink RX3 115 yX3_layTo, Cond.instanceMethod yX3_layTo, Cond.selects RX3 yX3_layTo yX3_layTo, Cond.code yX3_layTo cX3_layTo 5 none, Cond.methodLink RX3 136 Lib.Math.min.name, Cond.methodLink RX3 142 yX2_paint, Cond.methodLink RX3 93 yX3_readDrawn, Cond.instanceMethod yX3_readDrawn, Cond.selects RX3 yX3_readDrawn yX3_readDrawn, Cond.code yX3_readDrawn cX3_readDrawn 8 (some .int), Cond.methodLink RX3 122 yX3_readWay, Cond.instanceMethod yX3_readWay, Cond.selects RX3 yX3_readWay yX3_readWay, Cond.code yX3_readWay cX3_readWay 3 (some .int), Cond.methodLink RX3 125 yX3_layAcross, Cond.instanceMethod yX3_layAcross, Cond.selects RX3 yX3_layAcross yX3_layAcross, Cond.code yX3_layAcross cX3_layAcross 5 (some .int)]
def wsL_law0_r16 : List Cond := [Cond.methodLink RX3 129 yX2_changeTo, Cond.instanceMethod yX2_changeTo, Cond.selects RX2 yX2_changeTo yX2_changeTo, Cond.code yX2_changeTo cX2_changeTo 5 (some .int), Cond.methodLink RX2 57 yX2_isDark, Cond.instanceMethod yX2_isDark, Cond.selects RX2 yX2_isDark yX2_isDark, Cond.code yX2_isDark cX2_isDark 3 (some .boolean), Cond.methodLink RX2 37 yX2_wordOf, Cond.instanceMethod yX2_wordOf, Cond.selects RX2 yX2_wordOf yX2_wordOf, Cond.code yX2_wordOf cX2_wordOf 4 (some .long), Cond.methodLink RX2 61 yX2_nextOf, Cond.instanceMethod yX2_nextOf, Cond.selects RX2 yX2_nextOf yX2_nextOf, Cond.code yX2_nextOf cX2_nextOf 10 (some .int), Cond.methodLink RX2 51 yJ13_bitCount_95d88, Cond.static yJ13_bitCount_95d88, Cond.initialized RJ13, Cond.code yJ13_bitCount_95d88 cJ13_bitCount_95d88 2 (some .int), Cond.constantLong RJ13 314 (6148914691236517205), Cond.constantLong RJ13 316 (3689348814741910323), Cond.constantLong RJ13 318 (1085102592571150095), Cond.methodLink RX3 133 yX2_nextOf]
def wsL_law0_r17 : List Cond := [Cond.methodLink RX3 99 yX2_copyAbove, Cond.instanceMethod yX2_copyAbove, Cond.selects RX2 yX2_copyAbove yX2_copyAbove, Cond.code yX2_copyAbove cX2_copyAbove 4 none, Cond.methodLink RX3 102 yX2_keep, Cond.instanceMethod yX2_keep, Cond.selects RX2 yX2_keep yX2_keep, Cond.code yX2_keep cX2_keep 2 none, Cond.fieldLink RX2 26 "FaxFilter$Picture" "rows" "I", Cond.methodLink RL 94 yX8_read, Cond.instanceMethod yX8_read, Cond.selects RX8 yX8_read yX8_read, Cond.code yX8_read cX8_read 4 (some .int), Cond.fieldLink RX8 183 "FaxFilterModel" "state" "I", Cond.methodLink RX8 206 yX8_readHead, Cond.instanceMethod yX8_readHead, Cond.selects RX8 yX8_readHead yX8_readHead, Cond.code yX8_readHead cX8_readHead 2 (some .int), Cond.methodLink RX8 142 yX8_hasMarks, Cond.instanceMethod yX8_hasMarks, Cond.selects RX8 yX8_hasMarks yX8_hasMarks, Cond.code yX8_hasMarks cX8_hasMarks 1 (some .boolean), Cond.methodLink RX8 203 yX8_findMark, Cond.instanceMethod yX8_findMark]
def wsL_law0_r18 : List Cond := [Cond.selects RX8 yX8_findMark yX8_findMark, Cond.code yX8_findMark cX8_findMark 2 (some .boolean), Cond.methodLink RX8 171 yX8_zeros, Cond.instanceMethod yX8_zeros, Cond.selects RX8 yX8_zeros yX8_zeros, Cond.code yX8_zeros cX8_zeros 2 (some .int), Cond.methodLink RX8 164 yX8_left, Cond.instanceMethod yX8_left, Cond.selects RX8 yX8_left yX8_left, Cond.code yX8_left cX8_left 1 (some .int), Cond.methodLink RX8 168 yX8_bitAt, Cond.instanceMethod yX8_bitAt, Cond.selects RX8 yX8_bitAt yX8_bitAt, Cond.code yX8_bitAt cX8_bitAt 2 (some .int), Cond.methodLink RX8 190 yX8_isMarkHere, Cond.instanceMethod yX8_isMarkHere, Cond.selects RX8 yX8_isMarkHere yX8_isMarkHere, Cond.code yX8_isMarkHere cX8_isMarkHere 1 (some .boolean), Cond.methodLink RX8 84 yX8_paint, Cond.instanceMethod yX8_paint, Cond.selects RX8 yX8_paint yX8_paint, Cond.code yX8_paint cX8_paint 6 none, Cond.methodLink RX8 209 yX8_readPlain, Cond.instanceMethod yX8_readPlain]
def wsL_law0_r19 : List Cond := [Cond.selects RX8 yX8_readPlain yX8_readPlain, Cond.code yX8_readPlain cX8_readPlain 6 (some .boolean), Cond.fieldLink RX8 177 "FaxFilterModel" "hadMake" "Z", Cond.methodLink RX8 186 yX8_takeRun, Cond.instanceMethod yX8_takeRun, Cond.selects RX8 yX8_takeRun yX8_takeRun, Cond.code yX8_takeRun cX8_takeRun 4 (some .int), Cond.methodLink RX8 180 yX8_takeCode, Cond.instanceMethod yX8_takeCode, Cond.selects RX8 yX8_takeCode yX8_takeCode, Cond.code yX8_takeCode cX8_takeCode 4 (some .int), Cond.methodLink RX8 174 yX8_begins, Cond.instanceMethod yX8_begins, Cond.selects RX8 yX8_begins yX8_begins, Cond.code yX8_begins cX8_begins 5 (some .boolean), Cond.methodLink RX8 193 yX8_paintRun, Cond.instanceMethod yX8_paintRun, Cond.selects RX8 yX8_paintRun yX8_paintRun, Cond.code yX8_paintRun cX8_paintRun 6 (some .int), Cond.methodLink RX8 212 yX8_readDrawn, Cond.instanceMethod yX8_readDrawn, Cond.selects RX8 yX8_readDrawn yX8_readDrawn, Cond.code yX8_readDrawn cX8_readDrawn 3 (some .boolean), Cond.fieldLink RX8 121 "FaxFilterModel" "a" "I"]
def wsL_law0_r20 : List Cond := [Cond.fieldLink RX8 130 "FaxFilterModel" "c" "I", Cond.fieldLink RX8 127 "FaxFilterModel" "isDark" "Z", Cond.fieldLink RX8 124 "FaxFilterModel" "b" "I", Cond.fieldLink RX8 117 "FaxFilterModel" "isFirst" "Z", Cond.methodLink RX8 133 yX8_begin, Cond.instanceMethod yX8_begin, Cond.selects RX8 yX8_begin yX8_begin, Cond.code yX8_begin cX8_begin 1 none, Cond.methodLink RX8 136 yX8_look, Cond.instanceMethod yX8_look, Cond.selects RX8 yX8_look yX8_look, Cond.code yX8_look cX8_look 2 none, Cond.methodLink RX8 92 yX8_isChange, Cond.instanceMethod yX8_isChange, Cond.selects RX8 yX8_isChange yX8_isChange, Cond.code yX8_isChange cX8_isChange 3 (some .boolean), Cond.methodLink RX8 88 yX8_at, Cond.instanceMethod yX8_at, Cond.selects RX8 yX8_at yX8_at, Cond.code yX8_at cX8_at 3 (some .boolean), Cond.methodLink RX8 197 yX8_takeStep, Cond.instanceMethod yX8_takeStep, Cond.selects RX8 yX8_takeStep yX8_takeStep, Cond.code yX8_takeStep cX8_takeStep 4 (some .int)]
def wsL_law0_r21 : List Cond := [Cond.methodLink RX8 200 yX8_readAcross, Cond.instanceMethod yX8_readAcross, Cond.selects RX8 yX8_readAcross yX8_readAcross, Cond.code yX8_readAcross cX8_readAcross 5 (some .boolean), Cond.methodLink RX8 215 yX8_repair, Cond.instanceMethod yX8_repair, Cond.selects RX8 yX8_repair yX8_repair, Cond.code yX8_repair cX8_repair 3 none, Cond.methodLink RL 95 yL_state, Cond.static yL_state, Cond.codeWith yL_state cL_state 4 (some .int) [(0, 9, 12, 25)], Cond.classLink RL 25 "java/lang/ArrayIndexOutOfBoundsException", Cond.methodLink RL 22 yX7_state, Cond.instanceMethod yX7_state, Cond.selects RX7 yX7_state yX7_state, Cond.code yX7_state cX7_state 2 (some .int), Cond.classLink RX7 155 RJx00060, Cond.instantiable RJx00060 6, Cond.initialized RJx00060, Cond.methodLink RX7 151 yX2_has, Cond.instanceMethod yX2_has, Cond.selects RX2 yX2_has yX2_has, Cond.code yX2_has cX2_has 2 (some .boolean), Cond.methodLink RX7 160 yX2_stateOf]
def wsL_law0_r22 : List Cond := [Cond.instanceMethod yX2_stateOf, Cond.selects RX2 yX2_stateOf yX2_stateOf, Cond.code yX2_stateOf cX2_stateOf 2 (some .int), Cond.methodLink RL 97 yX8_state, Cond.instanceMethod yX8_state, Cond.selects RX8 yX8_state yX8_state, Cond.code yX8_state cX8_state 2 (some .int), Cond.methodLink RX8 81 yX8_isRow, Cond.instanceMethod yX8_isRow, Cond.selects RX8 yX8_isRow yX8_isRow, Cond.code yX8_isRow cX8_isRow 2 (some .boolean), Cond.methodLink RL 98 yL_row, Cond.static yL_row, Cond.codeWith yL_row cL_row 3 (some .int) [(0, 8, 11, 31)], Cond.classLink RL 31 "java/lang/UnsupportedOperationException", Cond.methodLink RL 27 yX7_row, Cond.instanceMethod yX7_row, Cond.selects RX7 yX7_row yX7_row, Cond.code yX7_row cX7_row 2 (some .int), Cond.classLink RX7 163 "java/lang/UnsupportedOperationException", Cond.initialized "java/lang/UnsupportedOperationException", Cond.methodLink RX7 168 yX2_whiten, Cond.methodLink RX7 171 yX2_keep, Cond.methodLink RL 101 yX8_row]
def wsL_law0_r23 : List Cond := [Cond.instanceMethod yX8_row, Cond.selects RX8 yX8_row yX8_row, Cond.code yX8_row cX8_row 1 (some .int), Cond.methodLink RL 102 yX7_clear, Cond.instanceMethod yX7_clear, Cond.selects RX7 yX7_clear yX7_clear, Cond.code yX7_clear cX7_clear 1 none, Cond.methodLink RL 105 yX8_clear, Cond.instanceMethod yX8_clear, Cond.selects RX8 yX8_clear yX8_clear, Cond.code yX8_clear cX8_clear 1 none, Cond.methodLink RL 106 yL_put, Cond.static yL_put, Cond.codeWith yL_put cL_put 6 (some .int) [(0, 9, 12, 25), (0, 9, 16, 13)], Cond.methodLink RL 33 yX7_put, Cond.instanceMethod yX7_put, Cond.selects RX7 yX7_put yX7_put, Cond.code yX7_put cX7_put 5 none, Cond.methodLink RX7 176 yX2_paint, Cond.methodLink RX7 180 yX2_mend, Cond.instanceMethod yX2_mend, Cond.selects RX2 yX2_mend yX2_mend, Cond.code yX2_mend cX2_mend 2 none, Cond.methodLink RL 109 yX8_put]
def wsL_law0_r24 : List Cond := [Cond.instanceMethod yX8_put, Cond.selects RX8 yX8_put yX8_put, Cond.code yX8_put cX8_put 5 none, Cond.methodLink RL 110 yL_bit, Cond.static yL_bit, Cond.codeWith yL_bit cL_bit 5 (some .int) [(0, 10, 13, 25)], Cond.methodLink RL 37 yX7_bit, Cond.instanceMethod yX7_bit, Cond.selects RX7 yX7_bit yX7_bit, Cond.code yX7_bit cX7_bit 3 (some .int), Cond.methodLink RX7 185 yX2_isDark, Cond.methodLink RL 113 yX8_bit, Cond.instanceMethod yX8_bit, Cond.selects RX8 yX8_bit yX8_bit, Cond.code yX8_bit cX8_bit 3 (some .int), Cond.methodLink RL 114 yL_run, Cond.static yL_run, Cond.codeWith yL_run cL_run 5 (some .int) [(0, 10, 13, 25)], Cond.methodLink RL 41 yX7_run, Cond.instanceMethod yX7_run, Cond.selects RX7 yX7_run yX7_run, Cond.code yX7_run cX7_run 4 (some .int), Cond.methodLink RX7 189 yX2_lengthOfRun, Cond.instanceMethod yX2_lengthOfRun]
def wsL_law0_r25 : List Cond := [Cond.selects RX2 yX2_lengthOfRun yX2_lengthOfRun, Cond.code yX2_lengthOfRun cX2_lengthOfRun 7 (some .int), Cond.methodLink RL 116 yX8_run, Cond.instanceMethod yX8_run, Cond.selects RX8 yX8_run yX8_run, Cond.code yX8_run cX8_run 6 (some .int), Cond.methodLink RX8 95 yX8_runsOf, Cond.instanceMethod yX8_runsOf, Cond.selects RX8 yX8_runsOf yX8_runsOf, Cond.code yX8_runsOf cX8_runsOf 4 (some .int), Cond.methodLink RL 117 yL_runs, Cond.static yL_runs, Cond.codeWith yL_runs cL_runs 4 (some .int) [(0, 9, 12, 25)], Cond.methodLink RL 44 yX7_runs, Cond.instanceMethod yX7_runs, Cond.selects RX7 yX7_runs yX7_runs, Cond.code yX7_runs cX7_runs 2 (some .int), Cond.methodLink RX7 194 yX2_countRuns, Cond.instanceMethod yX2_countRuns, Cond.selects RX2 yX2_countRuns yX2_countRuns, Cond.code yX2_countRuns cX2_countRuns 5 (some .int), Cond.methodLink RL 119 yX8_runs, Cond.instanceMethod yX8_runs, Cond.selects RX8 yX8_runs yX8_runs]
def wsL_law0_r26 : List Cond := [Cond.code yX8_runs cX8_runs 2 (some .int), Cond.methodLink RL 120 yX7_write, Cond.instanceMethod yX7_write, Cond.selects RX7 yX7_write yX7_write, Cond.code yX7_write cX7_write 1 (some .int), Cond.methodLink RX7 197 yX4_sendAll, Cond.instanceMethod yX4_sendAll, Cond.selects RX4 yX4_sendAll yX4_sendAll, Cond.code yX4_sendAll cX4_sendAll 3 none, Cond.fieldLink RX4 35 "FaxFilter$Picture" "rows" "I", Cond.fieldLink RX4 41 "FaxFilter$Settings" "kind" "I", Cond.methodLink RX4 30 yX1_restart, Cond.instanceMethod yX1_restart, Cond.selects RX1 yX1_restart yX1_restart, Cond.code yX1_restart cX1_restart 1 none, Cond.methodLink RX4 46 yX4_sendStart, Cond.instanceMethod yX4_sendStart, Cond.selects RX4 yX4_sendStart yX4_sendStart, Cond.code yX4_sendStart cX4_sendStart 2 none, Cond.fieldLink RX4 64 "FaxFilter$Settings" "aligned" "Z", Cond.methodLink RX4 60 yX5_hasMarks, Cond.methodLink RX4 68 yX1_alignFor, Cond.instanceMethod yX1_alignFor, Cond.selects RX1 yX1_alignFor yX1_alignFor]
def wsL_law0_r27 : List Cond := [Cond.code yX1_alignFor cX1_alignFor 2 none, Cond.methodLink RX1 19 yX1_send, Cond.instanceMethod yX1_send, Cond.selects RX1 yX1_send yX1_send, Cond.code yX1_send cX1_send 7 none, Cond.methodLink RX4 71 yX4_sendMark, Cond.instanceMethod yX4_sendMark, Cond.selects RX4 yX4_sendMark yX4_sendMark, Cond.code yX4_sendMark cX4_sendMark 2 none, Cond.methodLink RX4 74 yX1_send, Cond.methodLink RX4 50 yX4_sendPlain, Cond.instanceMethod yX4_sendPlain, Cond.selects RX4 yX4_sendPlain yX4_sendPlain, Cond.code yX4_sendPlain cX4_sendPlain 6 none, Cond.fieldLink RX4 78 "FaxFilter$Picture" "columns" "I", Cond.methodLink RX4 81 yX2_nextOf, Cond.methodLink RX4 85 yX4_sendRun, Cond.instanceMethod yX4_sendRun, Cond.selects RX4 yX4_sendRun yX4_sendRun, Cond.code yX4_sendRun cX4_sendRun 5 none, Cond.methodLink RX4 102 yX6_slotOfMake, Cond.static yX6_slotOfMake, Cond.code yX6_slotOfMake cX6_slotOfMake 1 (some .int), Cond.methodLink RX4 108 yX6_codeOf]
def wsL_law0_r28 : List Cond := [Cond.instanceMethod yX6_codeOf, Cond.selects RX6 yX6_codeOf yX6_codeOf, Cond.code yX6_codeOf cX6_codeOf 2 (some .int), Cond.methodLink RX4 111 yX6_bitsOf, Cond.methodLink RX4 54 yX4_sendDrawn, Cond.instanceMethod yX4_sendDrawn, Cond.selects RX4 yX4_sendDrawn yX4_sendDrawn, Cond.code yX4_sendDrawn cX4_sendDrawn 9 none, Cond.methodLink RX4 89 yX2_changeTo, Cond.methodLink RX4 92 yX4_sendWay, Cond.instanceMethod yX4_sendWay, Cond.selects RX4 yX4_sendWay yX4_sendWay, Cond.code yX4_sendWay cX4_sendWay 2 none, Cond.methodLink RX4 57 yX4_sendEnd, Cond.instanceMethod yX4_sendEnd, Cond.selects RX4 yX4_sendEnd yX4_sendEnd, Cond.code yX4_sendEnd cX4_sendEnd 3 none, Cond.methodLink RL 123 yX8_write, Cond.instanceMethod yX8_write, Cond.selects RX8 yX8_write yX8_write, Cond.code yX8_write cX8_write 2 (some .int), Cond.methodLink RX8 146 yX8_fill, Cond.instanceMethod yX8_fill, Cond.selects RX8 yX8_fill yX8_fill]
def wsL_law0_r29 : List Cond := [Cond.code yX8_fill cX8_fill 2 none, Cond.methodLink RX8 98 yX8_putBit, Cond.instanceMethod yX8_putBit, Cond.selects RX8 yX8_putBit yX8_putBit, Cond.code yX8_putBit cX8_putBit 2 none, Cond.methodLink RX8 149 yX8_putMark, Cond.instanceMethod yX8_putMark, Cond.selects RX8 yX8_putMark yX8_putMark, Cond.code yX8_putMark cX8_putMark 1 none, Cond.methodLink RX8 102 yX8_putBits, Cond.instanceMethod yX8_putBits, Cond.selects RX8 yX8_putBits yX8_putBits, Cond.code yX8_putBits cX8_putBits 4 none, Cond.methodLink RX8 152 yX8_isPlain, Cond.instanceMethod yX8_isPlain, Cond.selects RX8 yX8_isPlain yX8_isPlain, Cond.code yX8_isPlain cX8_isPlain 2 (some .boolean), Cond.methodLink RX8 155 yX8_writePlain, Cond.instanceMethod yX8_writePlain, Cond.selects RX8 yX8_writePlain yX8_writePlain, Cond.code yX8_writePlain cX8_writePlain 5 none, Cond.methodLink RX8 109 yX8_otherFrom, Cond.instanceMethod yX8_otherFrom, Cond.selects RX8 yX8_otherFrom yX8_otherFrom]
def wsL_law0_r30 : List Cond := [Cond.code yX8_otherFrom cX8_otherFrom 5 (some .int), Cond.methodLink RX8 113 yX8_putRun, Cond.instanceMethod yX8_putRun, Cond.selects RX8 yX8_putRun yX8_putRun, Cond.code yX8_putRun cX8_putRun 4 none, Cond.methodLink RX8 106 yX8_putCode, Cond.instanceMethod yX8_putCode, Cond.selects RX8 yX8_putCode yX8_putCode, Cond.code yX8_putCode cX8_putCode 3 none, Cond.methodLink RX8 158 yX8_writeDrawn, Cond.instanceMethod yX8_writeDrawn, Cond.selects RX8 yX8_writeDrawn yX8_writeDrawn, Cond.code yX8_writeDrawn cX8_writeDrawn 4 none, Cond.methodLink RX8 139 yX8_putStep, Cond.instanceMethod yX8_putStep, Cond.selects RX8 yX8_putStep yX8_putStep, Cond.code yX8_putStep cX8_putStep 2 none, Cond.methodLink RX8 161 yX8_finish, Cond.instanceMethod yX8_finish, Cond.selects RX8 yX8_finish yX8_finish, Cond.code yX8_finish cX8_finish 2 none, Cond.methodLink RL 124 yL_octet, Cond.static yL_octet, Cond.codeWith yL_octet cL_octet 4 (some .int) [(0, 9, 12, 25)]]
def wsL_law0_r31 : List Cond := [Cond.methodLink RL 47 yX7_octet, Cond.instanceMethod yX7_octet, Cond.selects RX7 yX7_octet yX7_octet, Cond.code yX7_octet cX7_octet 2 (some .int), Cond.methodLink RL 126 yX8_octet, Cond.instanceMethod yX8_octet, Cond.selects RX8 yX8_octet yX8_octet, Cond.code yX8_octet cX8_octet 2 (some .int), Cond.methodLink RL 127 yL_code, Cond.static yL_code, Cond.codeWith yL_code cL_code 5 (some .int) [(0, 10, 13, 13)], Cond.methodLink RL 50 yX7_code, Cond.instanceMethod yX7_code, Cond.selects RX7 yX7_code yX7_code, Cond.code yX7_code cX7_code 5 (some .int), Cond.constant RX7 210 (65536), Cond.methodLink RX7 202 yX6_slotOf, Cond.static yX6_slotOf, Cond.code yX6_slotOf cX6_slotOf 1 (some .int), Cond.methodLink RX6 24 yX6_slotOfMake, Cond.methodLink RX7 207 yX6_bitsOf, Cond.methodLink RX7 211 yX6_codeOf, Cond.methodLink RL 130 yX8_code, Cond.instanceMethod yX8_code]
def wsL_law0_r32 : List Cond := [Cond.selects RX8 yX8_code yX8_code, Cond.code yX8_code cX8_code 4 (some .int), Cond.constant RX8 59 (65536)]
def wsL_law0 : List Cond := (wsL_law0_r1 ++ (wsL_law0_r2 ++ (wsL_law0_r3 ++ (wsL_law0_r4 ++ (wsL_law0_r5 ++ (wsL_law0_r6 ++ (wsL_law0_r7 ++ (wsL_law0_r8 ++ (wsL_law0_r9 ++ (wsL_law0_r10 ++ (wsL_law0_r11 ++ (wsL_law0_r12 ++ (wsL_law0_r13 ++ (wsL_law0_r14 ++ (wsL_law0_r15 ++ (wsL_law0_r16 ++ (wsL_law0_r17 ++ (wsL_law0_r18 ++ (wsL_law0_r19 ++ (wsL_law0_r20 ++ (wsL_law0_r21 ++ (wsL_law0_r22 ++ (wsL_law0_r23 ++ (wsL_law0_r24 ++ (wsL_law0_r25 ++ (wsL_law0_r26 ++ (wsL_law0_r27 ++ (wsL_law0_r28 ++ (wsL_law0_r29 ++ (wsL_law0_r30 ++ (wsL_law0_r31 ++ wsL_law0_r32))))))))))))))))))))))))))))))) ++ wsX70 ++ wsX80 ++ wsX50 ++ wsX20 ++ wsX60 ++ wsX00 ++ wsX10 ++ wsX40 ++ wsX30 ++ wsJx000600 ++ ([] : List Cond)
def wsL_law : List Cond := wsL_law0 ++ (vx_atM "java/lang/ArrayIndexOutOfBoundsException" ["java/lang/IndexOutOfBoundsException", "java/lang/RuntimeException", "java/lang/Exception"]).filter goodWord ++ (vx_atS RX7 111 "java/lang/IllegalArgumentException" ["java/lang/RuntimeException", "java/lang/Exception"]).filter goodWord ++ (vx_atS RX7 167 "java/lang/UnsupportedOperationException" ["java/lang/RuntimeException", "java/lang/Exception"]).filter goodWord
abbrev vwCl : List vw_C := [(RJ0, TJ0, 2), (RJx00060, TJx00060, 6), (RX0, TX0, 3), (RX1, TX1, 2), (RX2, TX2, 5), (RX3, TX3, 9), (RX4, TX4, 5), (RX5, TX5, 5), (RX6, TX6, 4), (RX7, TX7, 8), (RX8, TX8, 22)]
theorem dJx00060_init_a7421_0 : decode cJx00060_init_a7421 0 = .ok (.aload_n 0, 1) := by decide +kernel
theorem dJx00060_init_a7421_1 : decode cJx00060_init_a7421 1 = .ok (.aload_n 1, 1) := by decide +kernel
theorem dJx00060_init_a7421_2 : decode cJx00060_init_a7421 2 = .ok (.invokespecial 7, 3) := by decide +kernel
theorem dJx00060_init_a7421_5 : decode cJx00060_init_a7421 5 = .ok (.return_, 1) := by decide +kernel
theorem dJ13_bitCount_95d88_0 : decode cJ13_bitCount_95d88 0 = .ok (.lload_n 0, 1) := by decide +kernel
theorem dJ13_bitCount_95d88_1 : decode cJ13_bitCount_95d88 1 = .ok (.lload_n 0, 1) := by decide +kernel
theorem dJ13_bitCount_95d88_2 : decode cJ13_bitCount_95d88 2 = .ok (.iconst 1, 1) := by decide +kernel
theorem dJ13_bitCount_95d88_3 : decode cJ13_bitCount_95d88 3 = .ok (.lushr, 1) := by decide +kernel
theorem dJ13_bitCount_95d88_4 : decode cJ13_bitCount_95d88 4 = .ok (.ldc2_w 314, 3) := by decide +kernel
theorem dJ13_bitCount_95d88_7 : decode cJ13_bitCount_95d88 7 = .ok (.land, 1) := by decide +kernel
theorem dJ13_bitCount_95d88_8 : decode cJ13_bitCount_95d88 8 = .ok (.lsub, 1) := by decide +kernel
theorem dJ13_bitCount_95d88_9 : decode cJ13_bitCount_95d88 9 = .ok (.lstore_n 0, 1) := by decide +kernel
theorem dJ13_bitCount_95d88_10 : decode cJ13_bitCount_95d88 10 = .ok (.lload_n 0, 1) := by decide +kernel
theorem dJ13_bitCount_95d88_11 : decode cJ13_bitCount_95d88 11 = .ok (.ldc2_w 316, 3) := by decide +kernel
theorem dJ13_bitCount_95d88_14 : decode cJ13_bitCount_95d88 14 = .ok (.land, 1) := by decide +kernel
theorem dJ13_bitCount_95d88_15 : decode cJ13_bitCount_95d88 15 = .ok (.lload_n 0, 1) := by decide +kernel
theorem dJ13_bitCount_95d88_16 : decode cJ13_bitCount_95d88 16 = .ok (.iconst 2, 1) := by decide +kernel
theorem dJ13_bitCount_95d88_17 : decode cJ13_bitCount_95d88 17 = .ok (.lushr, 1) := by decide +kernel
theorem dJ13_bitCount_95d88_18 : decode cJ13_bitCount_95d88 18 = .ok (.ldc2_w 316, 3) := by decide +kernel
theorem dJ13_bitCount_95d88_21 : decode cJ13_bitCount_95d88 21 = .ok (.land, 1) := by decide +kernel
theorem dJ13_bitCount_95d88_22 : decode cJ13_bitCount_95d88 22 = .ok (.ladd, 1) := by decide +kernel
theorem dJ13_bitCount_95d88_23 : decode cJ13_bitCount_95d88 23 = .ok (.lstore_n 0, 1) := by decide +kernel
theorem dJ13_bitCount_95d88_24 : decode cJ13_bitCount_95d88 24 = .ok (.lload_n 0, 1) := by decide +kernel
theorem dJ13_bitCount_95d88_25 : decode cJ13_bitCount_95d88 25 = .ok (.lload_n 0, 1) := by decide +kernel
theorem dJ13_bitCount_95d88_26 : decode cJ13_bitCount_95d88 26 = .ok (.iconst 4, 1) := by decide +kernel
theorem dJ13_bitCount_95d88_27 : decode cJ13_bitCount_95d88 27 = .ok (.lushr, 1) := by decide +kernel
theorem dJ13_bitCount_95d88_28 : decode cJ13_bitCount_95d88 28 = .ok (.ladd, 1) := by decide +kernel
theorem dJ13_bitCount_95d88_29 : decode cJ13_bitCount_95d88 29 = .ok (.ldc2_w 318, 3) := by decide +kernel
theorem dJ13_bitCount_95d88_32 : decode cJ13_bitCount_95d88 32 = .ok (.land, 1) := by decide +kernel
theorem dJ13_bitCount_95d88_33 : decode cJ13_bitCount_95d88 33 = .ok (.lstore_n 0, 1) := by decide +kernel
theorem dJ13_bitCount_95d88_34 : decode cJ13_bitCount_95d88 34 = .ok (.lload_n 0, 1) := by decide +kernel
theorem dJ13_bitCount_95d88_35 : decode cJ13_bitCount_95d88 35 = .ok (.lload_n 0, 1) := by decide +kernel
theorem dJ13_bitCount_95d88_36 : decode cJ13_bitCount_95d88 36 = .ok (.bipush 8, 2) := by decide +kernel
theorem dJ13_bitCount_95d88_38 : decode cJ13_bitCount_95d88 38 = .ok (.lushr, 1) := by decide +kernel
theorem dJ13_bitCount_95d88_39 : decode cJ13_bitCount_95d88 39 = .ok (.ladd, 1) := by decide +kernel
theorem dJ13_bitCount_95d88_40 : decode cJ13_bitCount_95d88 40 = .ok (.lstore_n 0, 1) := by decide +kernel
theorem dJ13_bitCount_95d88_41 : decode cJ13_bitCount_95d88 41 = .ok (.lload_n 0, 1) := by decide +kernel
theorem dJ13_bitCount_95d88_42 : decode cJ13_bitCount_95d88 42 = .ok (.lload_n 0, 1) := by decide +kernel
theorem dJ13_bitCount_95d88_43 : decode cJ13_bitCount_95d88 43 = .ok (.bipush 16, 2) := by decide +kernel
theorem dJ13_bitCount_95d88_45 : decode cJ13_bitCount_95d88 45 = .ok (.lushr, 1) := by decide +kernel
theorem dJ13_bitCount_95d88_46 : decode cJ13_bitCount_95d88 46 = .ok (.ladd, 1) := by decide +kernel
theorem dJ13_bitCount_95d88_47 : decode cJ13_bitCount_95d88 47 = .ok (.lstore_n 0, 1) := by decide +kernel
theorem dJ13_bitCount_95d88_48 : decode cJ13_bitCount_95d88 48 = .ok (.lload_n 0, 1) := by decide +kernel
theorem dJ13_bitCount_95d88_49 : decode cJ13_bitCount_95d88 49 = .ok (.lload_n 0, 1) := by decide +kernel
theorem dJ13_bitCount_95d88_50 : decode cJ13_bitCount_95d88 50 = .ok (.bipush 32, 2) := by decide +kernel
theorem dJ13_bitCount_95d88_52 : decode cJ13_bitCount_95d88 52 = .ok (.lushr, 1) := by decide +kernel
theorem dJ13_bitCount_95d88_53 : decode cJ13_bitCount_95d88 53 = .ok (.ladd, 1) := by decide +kernel
theorem dJ13_bitCount_95d88_54 : decode cJ13_bitCount_95d88 54 = .ok (.lstore_n 0, 1) := by decide +kernel
theorem dJ13_bitCount_95d88_55 : decode cJ13_bitCount_95d88 55 = .ok (.lload_n 0, 1) := by decide +kernel
theorem dJ13_bitCount_95d88_56 : decode cJ13_bitCount_95d88 56 = .ok (.l2i, 1) := by decide +kernel
theorem dJ13_bitCount_95d88_57 : decode cJ13_bitCount_95d88 57 = .ok (.bipush 127, 2) := by decide +kernel
theorem dJ13_bitCount_95d88_59 : decode cJ13_bitCount_95d88 59 = .ok (.iand, 1) := by decide +kernel
theorem dJ13_bitCount_95d88_60 : decode cJ13_bitCount_95d88 60 = .ok (.ireturn, 1) := by decide +kernel
theorem dJ9_max_7cf53_0 : decode cJ9_max_7cf53 0 = .ok (.iload_n 0, 1) := by decide +kernel
theorem dJ9_max_7cf53_1 : decode cJ9_max_7cf53 1 = .ok (.iload_n 1, 1) := by decide +kernel
theorem dJ9_max_7cf53_2 : decode cJ9_max_7cf53 2 = .ok (.if_icmp .lt 7, 3) := by decide +kernel
theorem dJ9_max_7cf53_5 : decode cJ9_max_7cf53 5 = .ok (.iload_n 0, 1) := by decide +kernel
theorem dJ9_max_7cf53_6 : decode cJ9_max_7cf53 6 = .ok (.goto 4, 3) := by decide +kernel
theorem dJ9_max_7cf53_9 : decode cJ9_max_7cf53 9 = .ok (.iload_n 1, 1) := by decide +kernel
theorem dJ9_max_7cf53_10 : decode cJ9_max_7cf53 10 = .ok (.ireturn, 1) := by decide +kernel
theorem dJ9_min_7cf53_0 : decode cJ9_min_7cf53 0 = .ok (.iload_n 0, 1) := by decide +kernel
theorem dJ9_min_7cf53_1 : decode cJ9_min_7cf53 1 = .ok (.iload_n 1, 1) := by decide +kernel
theorem dJ9_min_7cf53_2 : decode cJ9_min_7cf53 2 = .ok (.if_icmp .gt 7, 3) := by decide +kernel
theorem dJ9_min_7cf53_5 : decode cJ9_min_7cf53 5 = .ok (.iload_n 0, 1) := by decide +kernel
theorem dJ9_min_7cf53_6 : decode cJ9_min_7cf53 6 = .ok (.goto 4, 3) := by decide +kernel
theorem dJ9_min_7cf53_9 : decode cJ9_min_7cf53 9 = .ok (.iload_n 1, 1) := by decide +kernel
theorem dJ9_min_7cf53_10 : decode cJ9_min_7cf53 10 = .ok (.ireturn, 1) := by decide +kernel
end
section

/-! ===== base: values by integers; a method's body as a judgement over symbolic places ===== -/
def vI (z : Int) : Value := .int (Int32.ofInt z)
def vJ (w : BitVec 64) : Value := .long (Int64.ofBitVec w)
def b2i (b : Bool) : Int := if b then 1 else 0
def sb (z : Int) : Int := (z + 128) % 256 - 128
def aI (cA : ClassId) (n : Nat) (g : Nat → Int) : va_E := .inl (cA, n, .inl (fun i => Int32.ofInt (g i)))
def aB (cA : ClassId) (n : Nat) (g : Nat → Int) : va_E := .inl (cA, n, .inl (fun i => Int32.ofInt (sb (g i))))
def aZ (cA : ClassId) (n : Nat) (g : Nat → Bool) : va_E := .inl (cA, n, .inl (fun i => Int32.ofInt (b2i (g i))))
def aJ (cA : ClassId) (n : Nat) (g : Nat → BitVec 64) : va_E := .inl (cA, n, .inr (.inl (fun i => Int64.ofBitVec (g i))))
theorem b2i_t : b2i true = 1 := rfl
theorem b2i_f : b2i false = 0 := rfl
theorem b2i_01 (b : Bool) : 0 ≤ b2i b ∧ b2i b ≤ 1 := by cases b <;> decide
theorem b2i_0 {b : Bool} : b2i b = 0 ↔ b = false := by cases b <;> decide
theorem b2i_1 {b : Bool} : b2i b = 1 ↔ b = true := by cases b <;> decide
theorem b2i_inj {a b : Bool} : b2i a = b2i b ↔ a = b := by cases a <;> cases b <;> decide
theorem iI_toInt {x : Int} (hx : -2147483648 ≤ x ∧ x < 2147483648) : (Int32.ofInt x).toInt = x := Int32.toInt_ofInt_of_le (by omega) (by omega)
theorem iI_lt {x y : Int} (hx : -2147483648 ≤ x ∧ x < 2147483648) (hy : -2147483648 ≤ y ∧ y < 2147483648) : Int32.ofInt x < Int32.ofInt y ↔ x < y := by
  rw [Int32.lt_iff_toInt_lt, iI_toInt hx, iI_toInt hy]
theorem iI_le {x y : Int} (hx : -2147483648 ≤ x ∧ x < 2147483648) (hy : -2147483648 ≤ y ∧ y < 2147483648) : Int32.ofInt x ≤ Int32.ofInt y ↔ x ≤ y := by
  rw [Int32.le_iff_toInt_le, iI_toInt hx, iI_toInt hy]
theorem iI_eq {x y : Int} (hx : -2147483648 ≤ x ∧ x < 2147483648) (hy : -2147483648 ≤ y ∧ y < 2147483648) : Int32.ofInt x = Int32.ofInt y ↔ x = y := by
  constructor
  · intro h
    have h2 := congrArg Int32.toInt h
    rwa [iI_toInt hx, iI_toInt hy] at h2
  · intro h; rw [h]
theorem iI_nat {x : Int} (h0 : 0 ≤ x) (h1 : x < 2147483648) : (Int32.ofInt x).toNatClampNeg = x.toNat := by
  rw [← Int32.toNat_toInt, iI_toInt ⟨by omega, h1⟩]
theorem iI_nI (n : Nat) : Int32.ofInt (n : Int) = nI n := Int32.ofInt_eq_ofNat
theorem iI_in {x : Int} {n : Nat} (h0 : 0 ≤ x) (h1 : x < (n : Int)) (hN : (n : Int) ≤ 2147483647) : vp_in (Int32.ofInt x) n := by
  rw [vp_in_iff, iI_toInt (by omega)]
  omega
theorem iI_dom (x : Int32) : ∃ z : Int, x = Int32.ofInt z ∧ -2147483648 ≤ z ∧ z < 2147483648 := ⟨x.toInt, by rw [Int32.ofInt_toInt], x.le_toInt, x.toInt_lt⟩
theorem sb_rg (z : Int) : -128 ≤ sb z ∧ sb z < 128 := by unfold sb; omega
theorem sb_mod (z : Int) : sb z % 256 = z % 256 := by unfold sb; omega
theorem sb_8 (z : Int) : (Int32.ofInt z).toInt8.toInt32 = Int32.ofInt (sb z) := by
  rw [Int32.toInt8_ofInt]
  apply Int32.toInt.inj
  rw [iI_toInt (by have := sb_rg z; omega), Int8.toInt_toInt32, Int8.toInt_ofInt]
  unfold sb
  show Int.bmod z 256 = _
  rw [Int.bmod_def]
  split <;> omega
theorem sb_id {z : Int} (h : -128 ≤ z ∧ z < 128) : sb z = z := by unfold sb; omega
theorem iI_bn (x : Int) : (Int32.ofInt x).toBitVec.toNat = (x % 4294967296).toNat := by
  rw [Int32.toBitVec_ofInt, BitVec.toNat_ofInt]; rfl
theorem iI_and (x : Int) (k : Nat) (hk : k ≤ 30) {mm : Int} (hm : mm = 2 ^ k - 1) : Int32.ofInt x &&& Int32.ofInt mm = Int32.ofInt (x % 2 ^ k) := by
  have hp : (1 : Nat) ≤ 2 ^ k ∧ (2 : Nat) ^ k ≤ 2 ^ 30 := ⟨Nat.one_le_two_pow, Nat.pow_le_pow_right (by decide) hk⟩
  have hq : (2 : Int) ^ k = ((2 ^ k : Nat) : Int) := by rw [Int.natCast_pow]; rfl
  have h30 : (2 : Nat) ^ 30 = 1073741824 := by decide
  have hm2 : (Int32.ofInt mm).toBitVec.toNat = 2 ^ k - 1 := by
    rw [iI_bn, hm, hq]; omega
  rw [pk_and _ k hm2, iI_bn, ← iI_nI]
  congr 1
  rw [hq]
  have hd : (2 ^ k : Nat) ∣ 2 ^ 32 := Nat.pow_dvd_pow 2 (by omega)
  have h32 : (2 : Nat) ^ 32 = 4294967296 := by decide
  rw [h32] at hd
  have h1 : ((x % 4294967296).toNat : Int) = x % 4294967296 := by omega
  rw [Int.natCast_emod, h1]
  exact Int.emod_emod_of_dvd x (Int.natCast_dvd_natCast.mpr hd)
theorem iI_31 {s : Int} (h0 : 0 ≤ s) (h1 : s < 32) : Int32.ofInt s &&& 31 = Int32.ofInt s := by
  rw [show (31 : Int32) = Int32.ofInt 31 from rfl, iI_and s 5 (by decide) (by decide)]
  rw [show s % 2 ^ 5 = s by omega]
theorem iI_sm {s : Int} (h0 : 0 ≤ s) (h1 : s < 32) : ((Int32.ofInt s).toBitVec.smod 32).toNat = s.toNat := by
  obtain ⟨k, rfl⟩ : ∃ k : Nat, s = (k : Int) := ⟨s.toNat, by omega⟩
  have hk : k < 32 := by omega
  have key : ∀ k : Nat, k < 32 → ((Int32.ofInt (k : Int)).toBitVec.smod 32).toNat = k := by decide
  rw [key k hk]; rfl
theorem iI_shl (x : Int) {s : Int} (h0 : 0 ≤ s) (h1 : s < 32) : Int32.ofInt x <<< (Int32.ofInt s &&& 31) = Int32.ofInt (x * 2 ^ s.toNat) := by
  rw [iI_31 h0 h1]
  apply Int32.toBitVec.inj
  apply BitVec.eq_of_toNat_eq
  rw [pk_shl _ _ s.toNat (iI_sm h0 h1), iI_bn, iI_bn]
  have hq : (2 : Int) ^ s.toNat = ((2 ^ s.toNat : Nat) : Int) := by rw [Int.natCast_pow]; rfl
  rw [hq]
  generalize 2 ^ s.toNat = t
  have h32 : (2 : Nat) ^ 32 = 4294967296 := by decide
  rw [h32]
  have h2 : (((x % 4294967296).toNat * t % 4294967296 : Nat) : Int) = ((x * (t : Int)) % 4294967296 : Int) := by
    have h1 : ((x % 4294967296).toNat : Int) = x % 4294967296 := by omega
    rw [Int.natCast_emod, Int.natCast_mul, h1]
    rw [show ((4294967296 : Nat) : Int) = 4294967296 from rfl]
    rw [Int.mul_emod, Int.emod_emod_of_dvd _ (Int.dvd_refl _), ← Int.mul_emod]
  omega
theorem iI_shr {x : Int} (hx : -2147483648 ≤ x ∧ x < 2147483648) {s : Int} (h0 : 0 ≤ s) (h1 : s < 32) : Int32.ofInt x >>> (Int32.ofInt s &&& 31) = Int32.ofInt (x / 2 ^ s.toNat) := by
  rw [iI_31 h0 h1]
  apply Int32.toInt.inj
  rw [pk_shr _ _ s.toNat (iI_sm h0 h1), iI_toInt hx, Int.shiftRight_eq_div_pow]
  rw [show (((2 ^ s.toNat : Nat) : Int)) = (2 : Int) ^ s.toNat by rw [Int.natCast_pow]; rfl]
  have hp : (1 : Int) ≤ 2 ^ s.toNat := by
    rw [show (2 : Int) ^ s.toNat = ((2 ^ s.toNat : Nat) : Int) by rw [Int.natCast_pow]; rfl]
    have : 1 ≤ 2 ^ s.toNat := Nat.one_le_two_pow
    omega
  refine (iI_toInt ?_).symm
  generalize (2 : Int) ^ s.toNat = t at hp
  refine ⟨?_, ?_⟩
  · rw [Int.le_ediv_iff_mul_le (by omega)]
    omega
  · rw [Int.ediv_lt_iff_lt_mul (by omega)]
    omega
theorem iI_or {a b : Int} {k : Nat} (hk : k ≤ 30) (h0 : 0 ≤ b) (h1 : b < 2 ^ k) : Int32.ofInt (a * 2 ^ k) ||| Int32.ofInt b = Int32.ofInt (a * 2 ^ k + b) := by
  apply Int32.toBitVec.inj
  rw [Int32.toBitVec_or]
  have hq : (2 : Int) ^ k = ((2 ^ k : Nat) : Int) := by rw [Int.natCast_pow]; rfl
  have hp : (1 : Nat) ≤ 2 ^ k ∧ (2 : Nat) ^ k ≤ 2 ^ 30 := ⟨Nat.one_le_two_pow, Nat.pow_le_pow_right (by decide) hk⟩
  have hd : (2 ^ k : Nat) ∣ 2 ^ 32 := Nat.pow_dvd_pow 2 (by omega)
  have h32 : (2 : Nat) ^ 32 = 4294967296 := by decide
  have h30 : (2 : Nat) ^ 30 = 1073741824 := by decide
  rw [h32] at hd
  apply BitVec.eq_of_toNat_eq
  rw [BitVec.toNat_or, iI_bn, iI_bn, iI_bn]
  rw [hq] at h1 ⊢
  obtain ⟨r, hr⟩ := hd
  have e1 : (a * ((2 ^ k : Nat) : Int)) % 4294967296 = ((a % (r : Int)) * ((2 ^ k : Nat) : Int)) := by
    have h6 : (4294967296 : Int) = ((2 ^ k : Nat) : Int) * (r : Int) := by
      have := congrArg (fun n : Nat => (n : Int)) hr
      simp only [Int.natCast_mul] at this
      exact this
    rw [h6, Int.mul_comm a, Int.mul_emod_mul_of_pos _ _ (by omega), Int.mul_comm]
  have hr0 : 0 < r := by
    rcases Nat.eq_zero_or_pos r with h | h
    · subst h; simp at hr
    · exact h
  have e0 : 0 ≤ a % (r : Int) := Int.emod_nonneg _ (by omega)
  have e3 : a % (r : Int) < (r : Int) := Int.emod_lt_of_pos _ (by omega)
  obtain ⟨q, hqq⟩ : ∃ q : Nat, a % (r : Int) = (q : Int) := ⟨(a % (r : Int)).toNat, by omega⟩
  obtain ⟨bb, hbb⟩ : ∃ q : Nat, b = (q : Int) := ⟨b.toNat, by omega⟩
  subst hbb
  have e2 : (a * ((2 ^ k : Nat) : Int) + (bb : Int)) % 4294967296 = ((q * 2 ^ k + bb : Nat) : Int) := by
    rw [← Int.emod_add_emod, e1, hqq, ← Int.natCast_mul, ← Int.natCast_add]
    apply Int.emod_eq_of_lt
    · omega
    · have h5 : q + 1 ≤ r := by omega
      have h6 : (q + 1) * 2 ^ k ≤ r * 2 ^ k := Nat.mul_le_mul_right _ h5
      rw [Nat.add_mul, Nat.one_mul, Nat.mul_comm r, ← hr] at h6
      omega
  rw [e1, hqq, e2, ← Int.natCast_mul]
  rw [show (bb : Int) % 4294967296 = (bb : Int) by omega]
  simp only [Int.toNat_natCast]
  rw [Nat.mul_comm q, Nat.two_pow_add_eq_or_of_lt (by omega)]


/-! longs by bit vectors -/
theorem j64 : ∀ k, k < 64 → (BitVec.ofNat 64 k).smod 64 = BitVec.ofNat 64 k := by decide
theorem jI_ext {z : Int} (hz : -2147483648 ≤ z ∧ z < 2147483648) : (Int32.ofInt z).toInt64 = Int64.ofBitVec (BitVec.ofInt 64 z) := by
  apply Int64.toInt.inj
  rw [Int32.toInt_toInt64, iI_toInt hz]
  show z = (BitVec.ofInt 64 z).toInt
  rw [BitVec.toInt_ofInt]
  show z = Int.bmod z 18446744073709551616
  rw [Int.bmod_def]
  split <;> omega
theorem jI_6 {z : Int} (hz : -2147483648 ≤ z ∧ z < 2147483648) : (BitVec.ofInt 64 z) &&& 63#64 = BitVec.ofNat 64 (z % 64).toNat := by
  apply BitVec.eq_of_toNat_eq
  rw [BitVec.toNat_and, BitVec.toNat_ofInt, BitVec.toNat_ofNat, BitVec.toNat_ofNat]
  rw [show 63 % 2 ^ 64 = 2 ^ 6 - 1 by decide, Nat.and_two_pow_sub_one_eq_mod]
  omega
theorem jI_shl (x : BitVec 64) {z : Int} (hz : -2147483648 ≤ z ∧ z < 2147483648) : Int64.ofBitVec x <<< ((Int32.ofInt z).toInt64 &&& 63) = Int64.ofBitVec (x <<< (z % 64).toNat) := by
  rw [jI_ext hz]
  apply Int64.toBitVec.inj
  show x <<< (((BitVec.ofInt 64 z) &&& 63#64).smod 64) = x <<< (z % 64).toNat
  rw [jI_6 hz, j64 _ (by omega), BitVec.shiftLeft_eq', BitVec.toNat_ofNat, Nat.mod_eq_of_lt (by omega)]
theorem jI_shr (x : BitVec 64) {z : Int} (hz : -2147483648 ≤ z ∧ z < 2147483648) : Int64.ofBitVec x >>> ((Int32.ofInt z).toInt64 &&& 63) = Int64.ofBitVec (BitVec.sshiftRight x (z % 64).toNat) := by
  rw [jI_ext hz]
  apply Int64.toBitVec.inj
  show BitVec.sshiftRight' x (((BitVec.ofInt 64 z) &&& 63#64).smod 64) = BitVec.sshiftRight x (z % 64).toNat
  rw [jI_6 hz, j64 _ (by omega)]
  show BitVec.sshiftRight x (BitVec.ofNat 64 (z % 64).toNat).toNat = _
  rw [BitVec.toNat_ofNat, Nat.mod_eq_of_lt (by omega)]
theorem jI_ushr (x : BitVec 64) {z : Int} (hz : -2147483648 ≤ z ∧ z < 2147483648) : ((Int64.ofBitVec x).toUInt64 >>> ((Int32.ofInt z).toInt64.toUInt64 &&& Int64.toUInt64 63)).toInt64 = Int64.ofBitVec (x >>> (z % 64).toNat) := by
  rw [jI_ext hz]
  apply Int64.toBitVec.inj
  show x >>> (((BitVec.ofInt 64 z) &&& 63#64) % 64) = x >>> (z % 64).toNat
  rw [jI_6 hz]
  have h : (BitVec.ofNat 64 (z % 64).toNat) % 64 = BitVec.ofNat 64 (z % 64).toNat := by
    apply BitVec.eq_of_toNat_eq
    rw [BitVec.toNat_umod, BitVec.toNat_ofNat]
    show _ % 64 = _
    omega
  rw [h, BitVec.ushiftRight_eq', BitVec.toNat_ofNat, Nat.mod_eq_of_lt (by omega)]
theorem jI_low (x : BitVec 64) : (Int64.ofBitVec x).toInt32 = Int32.ofInt x.toInt := by
  rw [← Int32.ofInt_int64ToInt]; rfl
def lcm (x y : BitVec 64) : Int := if y.slt x then 1 else if x = y then 0 else -1
theorem lcm_eq (x y : BitVec 64) : lg_cmp (Int64.ofBitVec x) (Int64.ofBitVec y) = Int32.ofInt (lcm x y) := by
  have e : Int64.ofBitVec x = Int64.ofBitVec y ↔ x = y := ⟨fun h => by have := congrArg Int64.toBitVec h; exact this, fun h => by rw [h]⟩
  have g : (Int64.ofBitVec x > Int64.ofBitVec y) ↔ y.slt x = true := Iff.rfl
  unfold lg_cmp lcm
  by_cases h1 : y.slt x = true
  · rw [if_pos (g.mpr h1), if_pos h1]; rfl
  · rw [if_neg (fun h => h1 (g.mp h)), if_neg h1]
    by_cases h2 : x = y
    · rw [if_pos (e.mpr h2), if_pos h2]; rfl
    · rw [if_neg (fun h => h2 (e.mp h)), if_neg h2]; rfl
theorem lcm_rg (x y : BitVec 64) : -2147483648 ≤ lcm x y ∧ lcm x y < 2147483648 := by unfold lcm; split <;> (try split) <;> omega
theorem lcm_0 {x y : BitVec 64} : lcm x y = 0 ↔ x = y := by
  unfold lcm
  by_cases h2 : x = y
  · subst h2
    simp [BitVec.slt]
  · split
    · simp [h2]
    · simp [h2]
theorem iI_or63 {x : Int} (hx : 0 ≤ x ∧ x < 2147483648) : Int32.ofInt x ||| Int32.ofInt 63 = Int32.ofInt (x / 64 * 64 + 63) := by
  obtain ⟨q, hq⟩ : ∃ q : Int, q = x / 64 := ⟨_, rfl⟩
  obtain ⟨r, hr⟩ : ∃ r : Int, r = x % 64 := ⟨_, rfl⟩
  have e1 : x = q * 2 ^ 6 + r := by omega
  have k1 : Int32.ofInt x = Int32.ofInt (q * 2 ^ 6) ||| Int32.ofInt r := by
    rw [iI_or (k := 6) (by decide) (by omega) (by omega), ← e1]
  have k2 : Int32.ofInt r ||| Int32.ofInt 63 = Int32.ofInt 63 := by
    have key : ∀ j : Fin 64, Int32.ofInt ((j.val : Nat) : Int) ||| Int32.ofInt 63 = Int32.ofInt 63 := by decide
    have := key ⟨r.toNat, by omega⟩
    rwa [show ((r.toNat : Nat) : Int) = r by omega] at this
  rw [k1, Int32.or_assoc, k2, iI_or (k := 6) (by decide) (by decide) (by decide), hq]
  rfl
/-! what holds of the machine from the start on and is never changed: links to nest mates, the class's static arrays -/
def wayC (j : Nat) : Int := ([2, 2, 2, 1, 3, 3, 3, 1, 1] : List Int).getD j 0
def wayB (j : Nat) : Int := ([7, 6, 3, 1, 3, 6, 7, 4, 3] : List Int).getD j 0
def lenW (j : Nat) : Int := ([8, 6, 4, 4, 4, 4, 4, 4, 5, 5, 5, 5, 6, 6, 6, 6, 6, 6, 7, 7, 7, 7, 7, 7, 7, 7, 7, 7, 8, 8, 8, 8, 8, 8, 8, 8, 8, 8, 8, 8, 8, 8, 8, 8, 8, 8, 8, 8, 8, 8, 8, 8, 8, 8, 8, 8, 8, 8, 8, 8, 8, 8, 8, 8, 5, 5, 8, 8, 8, 8, 8, 8, 8, 8] : List Int).getD j 0
def lenD (j : Nat) : Int := ([9, 3, 2, 2, 3, 4, 4, 5, 5, 7, 7, 7, 7, 9, 9, 9, 9, 9, 9, 9, 9, 12, 12, 12, 12, 12, 12, 12, 12, 12, 12, 12, 12, 12, 12, 12, 12, 12, 12, 12, 12, 12, 12, 12, 12, 12, 12, 12, 12, 12, 12, 12, 12, 12, 12, 12, 12, 12, 12, 12, 12, 12, 12, 12, 12, 12, 12, 12, 12, 12, 12, 12, 12, 12] : List Int).getD j 0
def zE1 (n d : String) (ty : FieldType) (t N : Nat) (f : Nat → Int) (A : Nat → Prop) (U : State) : Prop := va_Z "FaxFilter" n d (.ref t) A U U.heap ∧ va_T ty t N (fun j => vI (f j)) A U U.heap
def zE (tw : Nat → Nat) (A : Nat → Prop) (U : State) : Prop :=
  va_Nw (.methodLinkNest "FaxFilter" 55 ⟨"FaxFilter$BitsIn", "<init>", "()V"⟩ "FaxFilter") U ∧
  va_Nw (.fieldLinkNest "FaxFilter$Sender" 95 "FaxFilter" "WAY_CODES" "[I" "FaxFilter") U ∧ va_Nw (.fieldLinkNest "FaxFilter$Sender" 99 "FaxFilter" "WAY_BITS" "[I" "FaxFilter") U ∧
  va_Nw (.fieldLinkNest "FaxFilter$Receiver" 146 "FaxFilter" "WAY_CODES" "[I" "FaxFilter") U ∧ va_Nw (.fieldLinkNest "FaxFilter$Receiver" 150 "FaxFilter" "WAY_BITS" "[I" "FaxFilter") U ∧
  zE1 "WAY_CODES" "[I" .int (tw 0) 9 wayC A U ∧ zE1 "WAY_BITS" "[I" .int (tw 1) 9 wayB A U ∧ zE1 "WHITE_BITS" "[B" .byte (tw 2) 74 lenW A U ∧ zE1 "DARK_BITS" "[B" .byte (tw 3) 74 lenD A U
theorem zE1_move {n d : String} {ty : FieldType} {t N : Nat} {f : Nat → Int} {A B : Nat → Prop} {s U : State} (hW : s.vm.Alike U.vm) (hq : ∀ q : Nat, q < s.heap.size → ¬ A q → U.heap[q]? = s.heap[q]?) (hB : ∀ q, B q → A q) (h : zE1 n d ty t N f A s) : zE1 n d ty t N f B U :=
  ⟨((va_Z.moved hW h.1).kept hq).narrow hB, ((va_T.moved hW h.2).kept hq).narrow hB⟩
theorem zE_move {tw : Nat → Nat} {A B : Nat → Prop} {s U : State} (hW : s.WarmedH U.vm) (hq : ∀ q : Nat, q < s.heap.size → ¬ A q → U.heap[q]? = s.heap[q]?) (hB : ∀ q, B q → A q) (h : zE tw A s) : zE tw B U := by
  obtain ⟨h1, h2, h3, h4, h5, h6, h7, h8, h9⟩ := h
  exact ⟨va_Nw.warmM hW h1, va_Nw.warmF hW h2, va_Nw.warmF hW h3, va_Nw.warmF hW h4, va_Nw.warmF hW h5, zE1_move hW.alike hq hB h6, zE1_move hW.alike hq hB h7, zE1_move hW.alike hq hB h8, zE1_move hW.alike hq hB h9⟩
theorem zE_blind {tw : Nat → Nat} {A : Nat → Prop} {U : State} (g : JFrame) (mk : MethodId) (a : Array Value) (h : zE tw A U) : zE tw A (U.calling g mk a) := by
  obtain ⟨h1, h2, h3, h4, h5, h6, h7, h8, h9⟩ := h
  have m1 : ∀ {n d : String} {ty : FieldType} {t N : Nat} {f : Nat → Int}, zE1 n d ty t N f A U → zE1 n d ty t N f A (U.calling g mk a) := fun h => zE1_move (s := U) (U := U.calling g mk a) (Vm.Alike.refl U.vm) (fun _ _ _ => rfl) (fun _ h => h) h
  exact ⟨va_Nw.same rfl rfl h1, va_Nw.same rfl rfl h2, va_Nw.same rfl rfl h3, va_Nw.same rfl rfl h4, va_Nw.same rfl rfl h5, m1 h6, m1 h7, m1 h8, m1 h9⟩
/-! the judgement -/
abbrev zV : Type := Nat → Nat → va_W → List (Nat × Value) → List Value → Nat → Prop
def zX (V : zV) (p : Program) (l : Launch) (e : Env) (R : Room) (s : State) (m : MethodId) (args : Array Value) (below : List Frame) (meth : Method) (c : Code) (D : va_G) (tys : List (ClassId × FieldType)) (tw : Nat → Nat) (A : Nat → Prop) (cc : ByteArray) (Ts : List Cond) (own : String) (nL : Nat) (ret : Option FieldType) (Q : State → Prop) : Prop :=
  CallFix p m c cc nL s args Ts own ∧ va_K D vwCl tys s ∧ zE tw A s ∧ (∀ q : Nat, s.heap.size ≤ q → A q) ∧ meth.sig.returnType = ret ∧ meth.locks = false ∧
  V = fun k n ws lv st pc => ∀ (H : Heap) (locs : List Loc) (ls : Array Slot), va_P D vwCl ws H → va_D A ws → va_S A s.heap H locs → lv_has ls nL lv → W p l e R s m args below meth c H locs k n Q (F0 m pc ls st)
def zQ (D : va_G) (tys : List (ClassId × FieldType)) {S : Type} (rv : S → Option Value) (wf : S → va_W) (post : S → Prop) (A : Nat → Prop) : Array Value → State → Outcome → State → Prop := fun _ st oc t =>
  (∃ u : S, oc = .returned (rv u) ∧ post u ∧ va_P D vwCl (wf u) t.heap ∧ va_K D vwCl tys t ∧ va_D A (wf u)) ∧ va_F A st t
def zB (D : va_G) (tys : List (ClassId × FieldType)) (tw : Nat → Nat) (W0 : va_W) (sz : Nat) (U : State) : Prop := U.heap.size = sz ∧ va_P D vwCl W0 U.heap ∧ va_K D vwCl tys U ∧ va_D (fun _ => True) W0 ∧ zE tw (va_A W0 sz) U
/-- a method's contract over a whole world -/
def zMet (l : Launch) (y : MethodName) (wsY : List Cond) (rm : Room) (D : va_G) (tys : List (ClassId × FieldType)) (tw : Nat → Nat) (W0 : va_W) (av : List Value) (mc ms : Nat) {S : Type} (rv : S → Option Value) (wf : S → va_W) (post : S → Prop) : Prop :=
  ∀ sz : Nat, Met l y wsY rm (va_Pc av (zB D tys tw W0 sz)) (zQ D tys rv wf post (va_A W0 sz)) mc ms (va_A W0 sz)
def zKn (y : MethodName) (wsY : List Cond) (bytes : ByteArray) (maxL : Nat) (retY : Option FieldType) (nA : Nat) : Prop :=
  (∃ ws' : List Cond, wsY = Cond.code y bytes maxL retY :: ws') ∧ y.cls ≠ "java/lang/invoke/MethodHandle" ∧ y.cls ≠ "java/lang/invoke/VarHandle" ∧ (parseMethodDescriptor y.desc).map (fun d => d.parameters.length) = some nA
theorem zB_blind (D : va_G) (tys : List (ClassId × FieldType)) (tw : Nat → Nat) (W0 : va_W) (sz : Nat) (av : List Value) : FrameBlind (va_Pc av (zB D tys tw W0 sz)) := fun a U g mk q => by
  obtain ⟨q0, q1, qP, qK, qD, qE⟩ := q
  exact ⟨q0, q1, qP, va_K.moved (u := U) (U := U.calling g mk a) (Vm.Alike.refl U.vm) qK, qD, zE_blind g mk a qE⟩
theorem z_met {l : Launch} {y : MethodName} {wsY ws' : List Cond} {rm : Room} {D : va_G} {tys : List (ClassId × FieldType)} {tw : Nat → Nat} {W0 : va_W} {av : List Value} {mc ms : Nat} {S : Type} {rv : S → Option Value} {wf : S → va_W} {post : S → Prop} {cc : ByteArray} {nL : Nat} {ret : Option FieldType}
    (hy : plainName y.cls = true) (hw : wsY = Cond.code y cc nL ret :: ws') (hn : (lg_sl av).length ≤ nL) {lv : List (Nat × Value)} (hlv : lv_args 0 av = lv)
    (body : ∀ (V : zV) (p : Program) (e : Env) (s : State) (m : MethodId) (args : Array Value) (below : List Frame) (meth : Method) (c : Code) (A : Nat → Prop),
      zX V p l e rm s m args below meth c D tys tw A cc wsY y.cls nL ret (MQ below (zQ D tys rv wf post A) args s mc ms A) → meth.name = y.name → V 0 0 W0 lv [] 0) :
    zMet l y wsY rm D tys tw W0 av mc ms rv wf post := by
  intro sz
  refine Met.ofW (cc := cc) (maxL := nL) (ret := ret) hy hw ?_
  intro p e s m args below meth c s₁ B hml hv
  obtain ⟨rfl, hsz, hP, hK, hD0, hE⟩ := hv
  have hts := atoms_spec (ws := wsY) B.pre
  have hown : s.vm.findClass y.cls = some m.cls := findClass_of_methodNamed B.named
  subst hsz
  have hD := hD0.self (sz := s.heap.size)
  have hA : ∀ q : Nat, s.heap.size ≤ q → va_A W0 s.heap.size q := fun q h => Or.inr h
  have hl := lv_entry av (n := nL) hn
  rw [hlv] at hl
  rw [lg_entry_eq]
  exact body _ p e s m _ below meth c (va_A W0 s.heap.size) ⟨⟨B.exec, B.bytes, hml, hown, hts⟩, hK, hE, hA, B.returns, B.notSynchronized, rfl⟩ (name_of_methodNamed B.named B.method).1 s.heap [] _ hP hD va_S.rf hl

section ZROWS
variable {V : zV} {p : Program} {l : Launch} {e : Env} {R : Room} {s : State} {m : MethodId} {args : Array Value} {below : List Frame} {meth : Method} {c : Code} {D : va_G} {tys : List (ClassId × FieldType)} {tw : Nat → Nat} {A : Nat → Prop} {cc : ByteArray} {Ts : List Cond} {own : String} {nL : Nat} {ret : Option FieldType} {Q : State → Prop} {k n : Nat} {ws : va_W} {lv : List (Nat × Value)} {st : List Value} {pc : Nat}
theorem z_iconst (C : zX V p l e R s m args below meth c D tys tw A cc Ts own nL ret Q) {z : Int} (d : decode cc pc = .ok (.iconst z, 1)) (kk : V k n ws lv (vI z :: st) (pc + 1)) : V k n ws lv st pc := by
  obtain ⟨⟨hx, hb, hml, hown, hts⟩, hK, hE, hA, hr, hlk, rfl⟩ := C
  intro H locs ls hP hD hS hl
  exact lv_iconst hx hb d rfl (kk H locs ls hP hD hS hl)
theorem z_bipush (C : zX V p l e R s m args below meth c D tys tw A cc Ts own nL ret Q) {z : Int} (d : decode cc pc = .ok (.bipush z, 2)) (hz : (Int8.ofInt z).toInt32 = Int32.ofInt z) (kk : V k n ws lv (vI z :: st) (pc + 2)) : V k n ws lv st pc := by
  obtain ⟨⟨hx, hb, hml, hown, hts⟩, hK, hE, hA, hr, hlk, rfl⟩ := C
  intro H locs ls hP hD hS hl
  exact lv_bipush hx hb d hz (kk H locs ls hP hD hS hl)
theorem z_sipush (C : zX V p l e R s m args below meth c D tys tw A cc Ts own nL ret Q) {z : Int} (d : decode cc pc = .ok (.sipush z, 3)) (hz : (Int16.ofInt z).toInt32 = Int32.ofInt z) (kk : V k n ws lv (vI z :: st) (pc + 3)) : V k n ws lv st pc := by
  obtain ⟨⟨hx, hb, hml, hown, hts⟩, hK, hE, hA, hr, hlk, rfl⟩ := C
  intro H locs ls hP hD hS hl
  exact lv_sipush hx hb d hz (kk H locs ls hP hD hS hl)
theorem z_ldc (C : zX V p l e R s m args below meth c D tys tw A cc Ts own nL ret Q) {index : Nat} {z : Int} (hc : Cond.constant own index (Int32.ofInt z) ∈ Ts) (d : decode cc pc = .ok (.ldc index, 2)) (kk : V k n ws lv (vI z :: st) (pc + 2)) : V k n ws lv st pc := by
  obtain ⟨⟨hx, hb, hml, hown, hts⟩, hK, hE, hA, hr, hlk, rfl⟩ := C
  intro H locs ls hP hD hS hl
  exact lv_ldc hx hb hown (hts _ hc) d (kk H locs ls hP hD hS hl)
theorem z_ldc2 (C : zX V p l e R s m args below meth c D tys tw A cc Ts own nL ret Q) {index : Nat} {w : BitVec 64} (hc : Cond.constantLong own index (Int64.ofBitVec w) ∈ Ts) (d : decode cc pc = .ok (.ldc2_w index, 3)) (kk : V k n ws lv (vJ w :: st) (pc + 3)) : V k n ws lv st pc := by
  obtain ⟨⟨hx, hb, hml, hown, hts⟩, hK, hE, hA, hr, hlk, rfl⟩ := C
  intro H locs ls hP hD hS hl
  exact lv_ldc2 hx hb hown (hts _ hc) d (kk H locs ls hP hD hS hl)
theorem z_lconst (C : zX V p l e R s m args below meth c D tys tw A cc Ts own nL ret Q) {z : Fin 2} (d : decode cc pc = .ok (.lconst z, 1)) (kk : V k n ws lv (vJ (BitVec.ofNat 64 (z : Nat)) :: st) (pc + 1)) : V k n ws lv st pc := by
  obtain ⟨⟨hx, hb, hml, hown, hts⟩, hK, hE, hA, hr, hlk, rfl⟩ := C
  intro H locs ls hP hD hS hl
  exact lv_lconst hx hb d rfl (kk H locs ls hP hD hS hl)
theorem z_iload_n (C : zX V p l e R s m args below meth c D tys tw A cc Ts own nL ret Q) {i : Fin 4} {x : Int} (d : decode cc pc = .ok (.iload_n i, 1)) (j : Nat) (hj : lv[j]? = some ((i : Nat), vI x)) (kk : V k n ws lv (vI x :: st) (pc + 1)) : V k n ws lv st pc := by
  obtain ⟨⟨hx, hb, hml, hown, hts⟩, hK, hE, hA, hr, hlk, rfl⟩ := C
  intro H locs ls hP hD hS hl
  exact lv_iload_n hx hb d rfl (lv_at hl j hj) (kk H locs ls hP hD hS hl)
theorem z_iload (C : zX V p l e R s m args below meth c D tys tw A cc Ts own nL ret Q) {i : Nat} {x : Int} (d : decode cc pc = .ok (.iload i, 2)) (j : Nat) (hj : lv[j]? = some (i, vI x)) (kk : V k n ws lv (vI x :: st) (pc + 2)) : V k n ws lv st pc := by
  obtain ⟨⟨hx, hb, hml, hown, hts⟩, hK, hE, hA, hr, hlk, rfl⟩ := C
  intro H locs ls hP hD hS hl
  exact lv_iload hx hb d (lv_at hl j hj) (kk H locs ls hP hD hS hl)
theorem z_lload_n (C : zX V p l e R s m args below meth c D tys tw A cc Ts own nL ret Q) {i : Fin 4} {x : BitVec 64} (d : decode cc pc = .ok (.lload_n i, 1)) (j : Nat) (hj : lv[j]? = some ((i : Nat), vJ x)) (kk : V k n ws lv (vJ x :: st) (pc + 1)) : V k n ws lv st pc := by
  obtain ⟨⟨hx, hb, hml, hown, hts⟩, hK, hE, hA, hr, hlk, rfl⟩ := C
  intro H locs ls hP hD hS hl
  exact lv_lload_n hx hb d rfl (lv_at hl j hj) (kk H locs ls hP hD hS hl)
theorem z_lload (C : zX V p l e R s m args below meth c D tys tw A cc Ts own nL ret Q) {i : Nat} {x : BitVec 64} (d : decode cc pc = .ok (.lload i, 2)) (j : Nat) (hj : lv[j]? = some (i, vJ x)) (kk : V k n ws lv (vJ x :: st) (pc + 2)) : V k n ws lv st pc := by
  obtain ⟨⟨hx, hb, hml, hown, hts⟩, hK, hE, hA, hr, hlk, rfl⟩ := C
  intro H locs ls hP hD hS hl
  exact lv_lload hx hb d (lv_at hl j hj) (kk H locs ls hP hD hS hl)
theorem z_aload_n (C : zX V p l e R s m args below meth c D tys tw A cc Ts own nL ret Q) {i : Fin 4} {x : Nat} (d : decode cc pc = .ok (.aload_n i, 1)) (j : Nat) (hj : lv[j]? = some ((i : Nat), .ref x)) (kk : V k n ws lv (.ref x :: st) (pc + 1)) : V k n ws lv st pc := by
  obtain ⟨⟨hx, hb, hml, hown, hts⟩, hK, hE, hA, hr, hlk, rfl⟩ := C
  intro H locs ls hP hD hS hl
  exact lv_aload_n hx hb d rfl (lv_at hl j hj) (kk H locs ls hP hD hS hl)
theorem z_aload (C : zX V p l e R s m args below meth c D tys tw A cc Ts own nL ret Q) {i : Nat} {x : Nat} (d : decode cc pc = .ok (.aload i, 2)) (j : Nat) (hj : lv[j]? = some (i, .ref x)) (kk : V k n ws lv (.ref x :: st) (pc + 2)) : V k n ws lv st pc := by
  obtain ⟨⟨hx, hb, hml, hown, hts⟩, hK, hE, hA, hr, hlk, rfl⟩ := C
  intro H locs ls hP hD hS hl
  exact lv_aload hx hb d (lv_at hl j hj) (kk H locs ls hP hD hS hl)
theorem z_istore_n (C : zX V p l e R s m args below meth c D tys tw A cc Ts own nL ret Q) {f : Fin 4} {i : Nat} {x : Int} (d : decode cc pc = .ok (.istore_n f, 1)) (hi : (f : Nat) = i) (hn : i < nL) {lv' : List (Nat × Value)} (hf : (i, vI x) :: lv.filter (fun q => !(q.1 == i) && !(q.1 + 1 == i && q.2.category == 2)) = lv') (kk : V k n ws lv' st (pc + 1)) : V k n ws lv (vI x :: st) pc := by
  obtain ⟨⟨hx, hb, hml, hown, hts⟩, hK, hE, hA, hr, hlk, rfl⟩ := C
  intro H locs ls hP hD hS hl
  exact lv_istore_n (lv' := lv') hx hb d hi hl hn hf (fun ls hl => kk H locs ls hP hD hS hl)
theorem z_istore (C : zX V p l e R s m args below meth c D tys tw A cc Ts own nL ret Q) {i : Nat} {x : Int} (d : decode cc pc = .ok (.istore i, 2)) (hn : i < nL) {lv' : List (Nat × Value)} (hf : (i, vI x) :: lv.filter (fun q => !(q.1 == i) && !(q.1 + 1 == i && q.2.category == 2)) = lv') (kk : V k n ws lv' st (pc + 2)) : V k n ws lv (vI x :: st) pc := by
  obtain ⟨⟨hx, hb, hml, hown, hts⟩, hK, hE, hA, hr, hlk, rfl⟩ := C
  intro H locs ls hP hD hS hl
  exact lv_istore (lv' := lv') hx hb d hl hn hf (fun ls hl => kk H locs ls hP hD hS hl)
theorem z_lstore (C : zX V p l e R s m args below meth c D tys tw A cc Ts own nL ret Q) {i : Nat} {x : BitVec 64} (d : decode cc pc = .ok (.lstore i, 2)) (hn : i + 1 < nL) {lv' : List (Nat × Value)} (hf : (i, vJ x) :: lv.filter (fun q => !(q.1 == i) && (!(q.1 == i + 1) && !(q.1 + 1 == i && q.2.category == 2))) = lv') (kk : V k n ws lv' st (pc + 2)) : V k n ws lv (vJ x :: st) pc := by
  obtain ⟨⟨hx, hb, hml, hown, hts⟩, hK, hE, hA, hr, hlk, rfl⟩ := C
  intro H locs ls hP hD hS hl
  exact lv_lstore (lv' := lv') hx hb d hl hn hf (fun ls hl => kk H locs ls hP hD hS hl)
theorem z_lstore_n (C : zX V p l e R s m args below meth c D tys tw A cc Ts own nL ret Q) {f : Fin 4} {i : Nat} {x : BitVec 64} (d : decode cc pc = .ok (.lstore_n f, 1)) (hi : (f : Nat) = i) (hn : i + 1 < nL) {lv' : List (Nat × Value)} (hf : (i, vJ x) :: lv.filter (fun q => !(q.1 == i) && (!(q.1 == i + 1) && !(q.1 + 1 == i && q.2.category == 2))) = lv') (kk : V k n ws lv' st (pc + 1)) : V k n ws lv (vJ x :: st) pc := by
  obtain ⟨⟨hx, hb, hml, hown, hts⟩, hK, hE, hA, hr, hlk, rfl⟩ := C
  intro H locs ls hP hD hS hl
  exact lv_lstore_n (lv' := lv') hx hb d hi hl hn hf (fun ls hl => kk H locs ls hP hD hS hl)
theorem z_astore_n (C : zX V p l e R s m args below meth c D tys tw A cc Ts own nL ret Q) {f : Fin 4} {i : Nat} {x : Nat} (d : decode cc pc = .ok (.astore_n f, 1)) (hi : (f : Nat) = i) (hn : i < nL) {lv' : List (Nat × Value)} (hf : (i, .ref x) :: lv.filter (fun q => !(q.1 == i) && !(q.1 + 1 == i && q.2.category == 2)) = lv') (kk : V k n ws lv' st (pc + 1)) : V k n ws lv (.ref x :: st) pc := by
  obtain ⟨⟨hx, hb, hml, hown, hts⟩, hK, hE, hA, hr, hlk, rfl⟩ := C
  intro H locs ls hP hD hS hl
  exact lv_astore_n (lv' := lv') hx hb d hi hl hn hf (fun ls hl => kk H locs ls hP hD hS hl)
theorem z_astore (C : zX V p l e R s m args below meth c D tys tw A cc Ts own nL ret Q) {i : Nat} {x : Nat} (d : decode cc pc = .ok (.astore i, 2)) (hn : i < nL) {lv' : List (Nat × Value)} (hf : (i, .ref x) :: lv.filter (fun q => !(q.1 == i) && !(q.1 + 1 == i && q.2.category == 2)) = lv') (kk : V k n ws lv' st (pc + 2)) : V k n ws lv (.ref x :: st) pc := by
  obtain ⟨⟨hx, hb, hml, hown, hts⟩, hK, hE, hA, hr, hlk, rfl⟩ := C
  intro H locs ls hP hD hS hl
  exact lv_astore (lv' := lv') hx hb d hl hn hf (fun ls hl => kk H locs ls hP hD hS hl)
theorem z_iinc (C : zX V p l e R s m args below meth c D tys tw A cc Ts own nL ret Q) {i : Nat} {x z : Int} (d : decode cc pc = .ok (.iinc i z, 3)) (j : Nat) (hj : lv[j]? = some (i, vI x)) (hn : i < nL) {lv' : List (Nat × Value)} (hf : (i, vI (x + z)) :: lv.filter (fun q => !(q.1 == i) && !(q.1 + 1 == i && q.2.category == 2)) = lv') (kk : V k n ws lv' st (pc + 3)) : V k n ws lv st pc := by
  obtain ⟨⟨hx, hb, hml, hown, hts⟩, hK, hE, hA, hr, hlk, rfl⟩ := C
  intro H locs ls hP hD hS hl
  exact lv_iinc (lv' := lv') hx hb d hl hj (by rw [← Int32.ofInt_add]) hn hf (fun ls hl => kk H locs ls hP hD hS hl)
theorem z_lsub (C : zX V p l e R s m args below meth c D tys tw A cc Ts own nL ret Q) {lv' : List (Nat × Value)} (ks : List Nat) (hf : lv_pick lv ks = lv') (kk : V k n ws lv' st pc) : V k n ws lv st pc := by
  obtain ⟨⟨hx, hb, hml, hown, hts⟩, hK, hE, hA, hr, hlk, rfl⟩ := C
  intro H locs ls hP hD hS hl
  exact kk H locs ls hP hD hS (lv_sub hl ks hf)
theorem z_iadd (C : zX V p l e R s m args below meth c D tys tw A cc Ts own nL ret Q) {x y : Int} (d : decode cc pc = .ok (.iadd, 1)) (kk : V k n ws lv (vI (x + y) :: st) (pc + 1)) : V k n ws lv (vI y :: vI x :: st) pc := by
  obtain ⟨⟨hx, hb, hml, hown, hts⟩, hK, hE, hA, hr, hlk, rfl⟩ := C
  intro H locs ls hP hD hS hl
  refine lv_iadd hx hb d ?_
  rw [← Int32.ofInt_add]
  exact kk H locs ls hP hD hS hl
theorem z_isub (C : zX V p l e R s m args below meth c D tys tw A cc Ts own nL ret Q) {x y : Int} (d : decode cc pc = .ok (.isub, 1)) (kk : V k n ws lv (vI (x - y) :: st) (pc + 1)) : V k n ws lv (vI y :: vI x :: st) pc := by
  obtain ⟨⟨hx, hb, hml, hown, hts⟩, hK, hE, hA, hr, hlk, rfl⟩ := C
  intro H locs ls hP hD hS hl
  refine lv_isub hx hb d ?_
  rw [← Int32.ofInt_sub]
  exact kk H locs ls hP hD hS hl
theorem z_imul (C : zX V p l e R s m args below meth c D tys tw A cc Ts own nL ret Q) {x y : Int} (d : decode cc pc = .ok (.imul, 1)) (kk : V k n ws lv (vI (x * y) :: st) (pc + 1)) : V k n ws lv (vI y :: vI x :: st) pc := by
  obtain ⟨⟨hx, hb, hml, hown, hts⟩, hK, hE, hA, hr, hlk, rfl⟩ := C
  intro H locs ls hP hD hS hl
  refine lv_imul hx hb d ?_
  rw [← Int32.ofInt_mul]
  exact kk H locs ls hP hD hS hl
theorem z_ineg (C : zX V p l e R s m args below meth c D tys tw A cc Ts own nL ret Q) {x : Int} (d : decode cc pc = .ok (.ineg, 1)) (kk : V k n ws lv (vI (-x) :: st) (pc + 1)) : V k n ws lv (vI x :: st) pc := by
  obtain ⟨⟨hx, hb, hml, hown, hts⟩, hK, hE, hA, hr, hlk, rfl⟩ := C
  intro H locs ls hP hD hS hl
  refine lv_ineg hx hb d ?_
  have h := kk H locs ls hP hD hS hl
  unfold vI at h
  first | (rw [Int32.ofInt_neg] at h; exact h) | (rw [show -x = 0 - x by omega, Int32.ofInt_sub] at h; exact h)
theorem z_idiv (C : zX V p l e R s m args below meth c D tys tw A cc Ts own nL ret Q) {x y : Int} (d : decode cc pc = .ok (.idiv, 1)) (hx0 : 0 ≤ x ∧ x < 2147483648) (hy0 : 0 < y ∧ y < 2147483648) (kk : V k n ws lv (vI (x / y) :: st) (pc + 1)) : V k n ws lv (vI y :: vI x :: st) pc := by
  obtain ⟨⟨hx, hb, hml, hown, hts⟩, hK, hE, hA, hr, hlk, rfl⟩ := C
  intro H locs ls hP hD hS hl
  obtain ⟨a, rfl⟩ : ∃ a : Nat, x = (a : Int) := ⟨x.toNat, by omega⟩
  obtain ⟨b, rfl⟩ : ∃ b : Nat, y = (b : Int) := ⟨y.toNat, by omega⟩
  refine lv_idiv hx hb d (by rw [iI_nI]; exact nI_ne0 (by omega) (by omega)) ?_
  rw [iI_nI, iI_nI, pk_div (by omega) (by omega) (by omega), ← iI_nI]
  exact kk H locs ls hP hD hS hl
theorem z_irem (C : zX V p l e R s m args below meth c D tys tw A cc Ts own nL ret Q) {x y : Int} (d : decode cc pc = .ok (.irem, 1)) (hx0 : 0 ≤ x ∧ x < 2147483648) (hy0 : 0 < y ∧ y < 2147483648) (kk : V k n ws lv (vI (x % y) :: st) (pc + 1)) : V k n ws lv (vI y :: vI x :: st) pc := by
  obtain ⟨⟨hx, hb, hml, hown, hts⟩, hK, hE, hA, hr, hlk, rfl⟩ := C
  intro H locs ls hP hD hS hl
  obtain ⟨a, rfl⟩ : ∃ a : Nat, x = (a : Int) := ⟨x.toNat, by omega⟩
  obtain ⟨b, rfl⟩ : ∃ b : Nat, y = (b : Int) := ⟨y.toNat, by omega⟩
  refine lv_irem hx hb d (by rw [iI_nI]; exact nI_ne0 (by omega) (by omega)) ?_
  rw [iI_nI, iI_nI, pk_rem (by omega) (by omega) (by omega), ← iI_nI]
  exact kk H locs ls hP hD hS hl
theorem z_iand (C : zX V p l e R s m args below meth c D tys tw A cc Ts own nL ret Q) {x y : Int} (j : Nat) (d : decode cc pc = .ok (.iand, 1)) (hj : j ≤ 30) (hy : y = 2 ^ j - 1) (kk : V k n ws lv (vI (x % 2 ^ j) :: st) (pc + 1)) : V k n ws lv (vI y :: vI x :: st) pc := by
  obtain ⟨⟨hx, hb, hml, hown, hts⟩, hK, hE, hA, hr, hlk, rfl⟩ := C
  intro H locs ls hP hD hS hl
  refine lv_iand hx hb d ?_
  rw [iI_and x j hj hy]
  exact kk H locs ls hP hD hS hl
theorem z_ishl (C : zX V p l e R s m args below meth c D tys tw A cc Ts own nL ret Q) {x y : Int} (j : Nat) (d : decode cc pc = .ok (.ishl, 1)) (hy : y = (j : Int)) (hj : j < 32) (kk : V k n ws lv (vI (x * 2 ^ j) :: st) (pc + 1)) : V k n ws lv (vI y :: vI x :: st) pc := by
  obtain ⟨⟨hx, hb, hml, hown, hts⟩, hK, hE, hA, hr, hlk, rfl⟩ := C
  intro H locs ls hP hD hS hl
  refine lv_ishl hx hb d ?_
  rw [iI_shl x (by omega) (by omega), hy]
  exact kk H locs ls hP hD hS hl
theorem z_ishr (C : zX V p l e R s m args below meth c D tys tw A cc Ts own nL ret Q) {x y : Int} (j : Nat) (d : decode cc pc = .ok (.ishr, 1)) (hx0 : -2147483648 ≤ x ∧ x < 2147483648) (hy : y = (j : Int)) (hj : j < 32) (kk : V k n ws lv (vI (x / 2 ^ j) :: st) (pc + 1)) : V k n ws lv (vI y :: vI x :: st) pc := by
  obtain ⟨⟨hx, hb, hml, hown, hts⟩, hK, hE, hA, hr, hlk, rfl⟩ := C
  intro H locs ls hP hD hS hl
  refine lv_ishr hx hb d ?_
  rw [iI_shr hx0 (by omega) (by omega), hy]
  exact kk H locs ls hP hD hS hl
theorem z_ior (C : zX V p l e R s m args below meth c D tys tw A cc Ts own nL ret Q) {x y : Int} (a : Int) (j : Nat) (d : decode cc pc = .ok (.ior, 1)) (hj : j ≤ 30) (ha : x = a * 2 ^ j) (hy : 0 ≤ y ∧ y < 2 ^ j) (kk : V k n ws lv (vI (x + y) :: st) (pc + 1)) : V k n ws lv (vI y :: vI x :: st) pc := by
  obtain ⟨⟨hx, hb, hml, hown, hts⟩, hK, hE, hA, hr, hlk, rfl⟩ := C
  intro H locs ls hP hD hS hl
  refine lv_ior hx hb d ?_
  rw [ha, iI_or hj hy.1 hy.2, ← ha]
  exact kk H locs ls hP hD hS hl
theorem z_i2b (C : zX V p l e R s m args below meth c D tys tw A cc Ts own nL ret Q) {x : Int} (d : decode cc pc = .ok (.i2b, 1)) (kk : V k n ws lv (vI (sb x) :: st) (pc + 1)) : V k n ws lv (vI x :: st) pc := by
  obtain ⟨⟨hx, hb, hml, hown, hts⟩, hK, hE, hA, hr, hlk, rfl⟩ := C
  intro H locs ls hP hD hS hl
  refine lv_i2b hx hb d (sb_8 x) ?_
  exact kk H locs ls hP hD hS hl
theorem z_dup (C : zX V p l e R s m args below meth c D tys tw A cc Ts own nL ret Q) {v : Value} (d : decode cc pc = .ok (.dup, 1)) (hv : v.category = 1) (kk : V k n ws lv (v :: v :: st) (pc + 1)) : V k n ws lv (v :: st) pc := by
  obtain ⟨⟨hx, hb, hml, hown, hts⟩, hK, hE, hA, hr, hlk, rfl⟩ := C
  intro H locs ls hP hD hS hl
  exact lv_dup hx hb d hv (kk H locs ls hP hD hS hl)
theorem z_pop (C : zX V p l e R s m args below meth c D tys tw A cc Ts own nL ret Q) {v : Value} (d : decode cc pc = .ok (.pop, 1)) (hv : v.category = 1) (kk : V k n ws lv st (pc + 1)) : V k n ws lv (v :: st) pc := by
  obtain ⟨⟨hx, hb, hml, hown, hts⟩, hK, hE, hA, hr, hlk, rfl⟩ := C
  intro H locs ls hP hD hS hl
  exact lv_pop hx hb d hv (kk H locs ls hP hD hS hl)
theorem z_goto (C : zX V p l e R s m args below meth c D tys tw A cc Ts own nL ret Q) {off : Int} {tgt : Nat} (d : decode cc pc = .ok (.goto off, 3)) (ht : (pc : Int) + off = (tgt : Int)) (kk : V k n ws lv st tgt) : V k n ws lv st pc := by
  obtain ⟨⟨hx, hb, hml, hown, hts⟩, hK, hE, hA, hr, hlk, rfl⟩ := C
  intro H locs ls hP hD hS hl
  exact lv_goto hx hb d ht (kk H locs ls hP hD hS hl)
theorem z_icmp_lt (C : zX V p l e R s m args below meth c D tys tw A cc Ts own nL ret Q) {x y : Int} (hx0 : -2147483648 ≤ x ∧ x < 2147483648) (hy0 : -2147483648 ≤ y ∧ y < 2147483648) {off : Int} {tgt : Nat} (d : decode cc pc = .ok (.if_icmp .lt off, 3)) (ht : (pc : Int) + off = (tgt : Int)) (kt : x < y → V k n ws lv st tgt) (kf : ¬ x < y → V k n ws lv st (pc + 3)) : V k n ws lv (vI y :: vI x :: st) pc := by
  obtain ⟨⟨hx, hb, hml, hown, hts⟩, hK, hE, hA, hr, hlk, rfl⟩ := C
  intro H locs ls hP hD hS hl
  have w := iI_lt hx0 hy0
  exact lv_icmp_lt hx hb d ht (fun q => kt (by first | exact w.mp q | exact fun z => q (w.mpr z)) H locs ls hP hD hS hl) (fun q => kf (by first | exact w.mp q | exact fun z => q (w.mpr z)) H locs ls hP hD hS hl)
theorem z_if_lt (C : zX V p l e R s m args below meth c D tys tw A cc Ts own nL ret Q) {x : Int} (hx0 : -2147483648 ≤ x ∧ x < 2147483648) {off : Int} {tgt : Nat} (d : decode cc pc = .ok (.ifCond .lt off, 3)) (ht : (pc : Int) + off = (tgt : Int)) (kt : x < 0 → V k n ws lv st tgt) (kf : ¬ x < 0 → V k n ws lv st (pc + 3)) : V k n ws lv (vI x :: st) pc := by
  obtain ⟨⟨hx, hb, hml, hown, hts⟩, hK, hE, hA, hr, hlk, rfl⟩ := C
  intro H locs ls hP hD hS hl
  have hy0 : -2147483648 ≤ (0 : Int) ∧ (0 : Int) < 2147483648 := by decide
  have w := iI_lt hx0 hy0
  rw [show Int32.ofInt 0 = 0 from rfl] at w
  exact lv_if_lt hx hb d ht (fun q => kt (by first | exact w.mp q | exact fun z => q (w.mpr z)) H locs ls hP hD hS hl) (fun q => kf (by first | exact w.mp q | exact fun z => q (w.mpr z)) H locs ls hP hD hS hl)
theorem z_icmp_ge (C : zX V p l e R s m args below meth c D tys tw A cc Ts own nL ret Q) {x y : Int} (hx0 : -2147483648 ≤ x ∧ x < 2147483648) (hy0 : -2147483648 ≤ y ∧ y < 2147483648) {off : Int} {tgt : Nat} (d : decode cc pc = .ok (.if_icmp .ge off, 3)) (ht : (pc : Int) + off = (tgt : Int)) (kt : y ≤ x → V k n ws lv st tgt) (kf : ¬ y ≤ x → V k n ws lv st (pc + 3)) : V k n ws lv (vI y :: vI x :: st) pc := by
  obtain ⟨⟨hx, hb, hml, hown, hts⟩, hK, hE, hA, hr, hlk, rfl⟩ := C
  intro H locs ls hP hD hS hl
  have w := iI_le hy0 hx0
  exact lv_icmp_ge hx hb d ht (fun q => kt (by first | exact w.mp q | exact fun z => q (w.mpr z)) H locs ls hP hD hS hl) (fun q => kf (by first | exact w.mp q | exact fun z => q (w.mpr z)) H locs ls hP hD hS hl)
theorem z_if_ge (C : zX V p l e R s m args below meth c D tys tw A cc Ts own nL ret Q) {x : Int} (hx0 : -2147483648 ≤ x ∧ x < 2147483648) {off : Int} {tgt : Nat} (d : decode cc pc = .ok (.ifCond .ge off, 3)) (ht : (pc : Int) + off = (tgt : Int)) (kt : 0 ≤ x → V k n ws lv st tgt) (kf : ¬ 0 ≤ x → V k n ws lv st (pc + 3)) : V k n ws lv (vI x :: st) pc := by
  obtain ⟨⟨hx, hb, hml, hown, hts⟩, hK, hE, hA, hr, hlk, rfl⟩ := C
  intro H locs ls hP hD hS hl
  have hy0 : -2147483648 ≤ (0 : Int) ∧ (0 : Int) < 2147483648 := by decide
  have w := iI_le hy0 hx0
  rw [show Int32.ofInt 0 = 0 from rfl] at w
  exact lv_if_ge hx hb d ht (fun q => kt (by first | exact w.mp q | exact fun z => q (w.mpr z)) H locs ls hP hD hS hl) (fun q => kf (by first | exact w.mp q | exact fun z => q (w.mpr z)) H locs ls hP hD hS hl)
theorem z_icmp_gt (C : zX V p l e R s m args below meth c D tys tw A cc Ts own nL ret Q) {x y : Int} (hx0 : -2147483648 ≤ x ∧ x < 2147483648) (hy0 : -2147483648 ≤ y ∧ y < 2147483648) {off : Int} {tgt : Nat} (d : decode cc pc = .ok (.if_icmp .gt off, 3)) (ht : (pc : Int) + off = (tgt : Int)) (kt : y < x → V k n ws lv st tgt) (kf : ¬ y < x → V k n ws lv st (pc + 3)) : V k n ws lv (vI y :: vI x :: st) pc := by
  obtain ⟨⟨hx, hb, hml, hown, hts⟩, hK, hE, hA, hr, hlk, rfl⟩ := C
  intro H locs ls hP hD hS hl
  have w := iI_lt hy0 hx0
  exact lv_icmp_gt hx hb d ht (fun q => kt (by first | exact w.mp q | exact fun z => q (w.mpr z)) H locs ls hP hD hS hl) (fun q => kf (by first | exact w.mp q | exact fun z => q (w.mpr z)) H locs ls hP hD hS hl)
theorem z_if_gt (C : zX V p l e R s m args below meth c D tys tw A cc Ts own nL ret Q) {x : Int} (hx0 : -2147483648 ≤ x ∧ x < 2147483648) {off : Int} {tgt : Nat} (d : decode cc pc = .ok (.ifCond .gt off, 3)) (ht : (pc : Int) + off = (tgt : Int)) (kt : 0 < x → V k n ws lv st tgt) (kf : ¬ 0 < x → V k n ws lv st (pc + 3)) : V k n ws lv (vI x :: st) pc := by
  obtain ⟨⟨hx, hb, hml, hown, hts⟩, hK, hE, hA, hr, hlk, rfl⟩ := C
  intro H locs ls hP hD hS hl
  have hy0 : -2147483648 ≤ (0 : Int) ∧ (0 : Int) < 2147483648 := by decide
  have w := iI_lt hy0 hx0
  rw [show Int32.ofInt 0 = 0 from rfl] at w
  exact lv_if_gt hx hb d ht (fun q => kt (by first | exact w.mp q | exact fun z => q (w.mpr z)) H locs ls hP hD hS hl) (fun q => kf (by first | exact w.mp q | exact fun z => q (w.mpr z)) H locs ls hP hD hS hl)
theorem z_icmp_le (C : zX V p l e R s m args below meth c D tys tw A cc Ts own nL ret Q) {x y : Int} (hx0 : -2147483648 ≤ x ∧ x < 2147483648) (hy0 : -2147483648 ≤ y ∧ y < 2147483648) {off : Int} {tgt : Nat} (d : decode cc pc = .ok (.if_icmp .le off, 3)) (ht : (pc : Int) + off = (tgt : Int)) (kt : x ≤ y → V k n ws lv st tgt) (kf : ¬ x ≤ y → V k n ws lv st (pc + 3)) : V k n ws lv (vI y :: vI x :: st) pc := by
  obtain ⟨⟨hx, hb, hml, hown, hts⟩, hK, hE, hA, hr, hlk, rfl⟩ := C
  intro H locs ls hP hD hS hl
  have w := iI_le hx0 hy0
  exact lv_icmp_le hx hb d ht (fun q => kt (by first | exact w.mp q | exact fun z => q (w.mpr z)) H locs ls hP hD hS hl) (fun q => kf (by first | exact w.mp q | exact fun z => q (w.mpr z)) H locs ls hP hD hS hl)
theorem z_if_le (C : zX V p l e R s m args below meth c D tys tw A cc Ts own nL ret Q) {x : Int} (hx0 : -2147483648 ≤ x ∧ x < 2147483648) {off : Int} {tgt : Nat} (d : decode cc pc = .ok (.ifCond .le off, 3)) (ht : (pc : Int) + off = (tgt : Int)) (kt : x ≤ 0 → V k n ws lv st tgt) (kf : ¬ x ≤ 0 → V k n ws lv st (pc + 3)) : V k n ws lv (vI x :: st) pc := by
  obtain ⟨⟨hx, hb, hml, hown, hts⟩, hK, hE, hA, hr, hlk, rfl⟩ := C
  intro H locs ls hP hD hS hl
  have hy0 : -2147483648 ≤ (0 : Int) ∧ (0 : Int) < 2147483648 := by decide
  have w := iI_le hx0 hy0
  rw [show Int32.ofInt 0 = 0 from rfl] at w
  exact lv_if_le hx hb d ht (fun q => kt (by first | exact w.mp q | exact fun z => q (w.mpr z)) H locs ls hP hD hS hl) (fun q => kf (by first | exact w.mp q | exact fun z => q (w.mpr z)) H locs ls hP hD hS hl)
theorem z_icmp_eq (C : zX V p l e R s m args below meth c D tys tw A cc Ts own nL ret Q) {x y : Int} (hx0 : -2147483648 ≤ x ∧ x < 2147483648) (hy0 : -2147483648 ≤ y ∧ y < 2147483648) {off : Int} {tgt : Nat} (d : decode cc pc = .ok (.if_icmp .eq off, 3)) (ht : (pc : Int) + off = (tgt : Int)) (kt : x = y → V k n ws lv st tgt) (kf : ¬ x = y → V k n ws lv st (pc + 3)) : V k n ws lv (vI y :: vI x :: st) pc := by
  obtain ⟨⟨hx, hb, hml, hown, hts⟩, hK, hE, hA, hr, hlk, rfl⟩ := C
  intro H locs ls hP hD hS hl
  have w := iI_eq hx0 hy0
  exact lv_icmp_eq hx hb d ht (fun q => kt (by first | exact w.mp q | exact fun z => q (w.mpr z)) H locs ls hP hD hS hl) (fun q => kf (by first | exact w.mp q | exact fun z => q (w.mpr z)) H locs ls hP hD hS hl)
theorem z_if_eq (C : zX V p l e R s m args below meth c D tys tw A cc Ts own nL ret Q) {x : Int} (hx0 : -2147483648 ≤ x ∧ x < 2147483648) {off : Int} {tgt : Nat} (d : decode cc pc = .ok (.ifCond .eq off, 3)) (ht : (pc : Int) + off = (tgt : Int)) (kt : x = 0 → V k n ws lv st tgt) (kf : ¬ x = 0 → V k n ws lv st (pc + 3)) : V k n ws lv (vI x :: st) pc := by
  obtain ⟨⟨hx, hb, hml, hown, hts⟩, hK, hE, hA, hr, hlk, rfl⟩ := C
  intro H locs ls hP hD hS hl
  have hy0 : -2147483648 ≤ (0 : Int) ∧ (0 : Int) < 2147483648 := by decide
  have w := iI_eq hx0 hy0
  rw [show Int32.ofInt 0 = 0 from rfl] at w
  exact lv_if_eq hx hb d ht (fun q => kt (by first | exact w.mp q | exact fun z => q (w.mpr z)) H locs ls hP hD hS hl) (fun q => kf (by first | exact w.mp q | exact fun z => q (w.mpr z)) H locs ls hP hD hS hl)
theorem z_icmp_ne (C : zX V p l e R s m args below meth c D tys tw A cc Ts own nL ret Q) {x y : Int} (hx0 : -2147483648 ≤ x ∧ x < 2147483648) (hy0 : -2147483648 ≤ y ∧ y < 2147483648) {off : Int} {tgt : Nat} (d : decode cc pc = .ok (.if_icmp .ne off, 3)) (ht : (pc : Int) + off = (tgt : Int)) (kt : ¬ x = y → V k n ws lv st tgt) (kf : x = y → V k n ws lv st (pc + 3)) : V k n ws lv (vI y :: vI x :: st) pc := by
  obtain ⟨⟨hx, hb, hml, hown, hts⟩, hK, hE, hA, hr, hlk, rfl⟩ := C
  intro H locs ls hP hD hS hl
  have w := iI_eq hx0 hy0
  exact lv_icmp_ne hx hb d ht (fun q => kt (by first | exact w.mp q | exact fun z => q (w.mpr z)) H locs ls hP hD hS hl) (fun q => kf (by first | exact w.mp q | exact fun z => q (w.mpr z)) H locs ls hP hD hS hl)
theorem z_if_ne (C : zX V p l e R s m args below meth c D tys tw A cc Ts own nL ret Q) {x : Int} (hx0 : -2147483648 ≤ x ∧ x < 2147483648) {off : Int} {tgt : Nat} (d : decode cc pc = .ok (.ifCond .ne off, 3)) (ht : (pc : Int) + off = (tgt : Int)) (kt : ¬ x = 0 → V k n ws lv st tgt) (kf : x = 0 → V k n ws lv st (pc + 3)) : V k n ws lv (vI x :: st) pc := by
  obtain ⟨⟨hx, hb, hml, hown, hts⟩, hK, hE, hA, hr, hlk, rfl⟩ := C
  intro H locs ls hP hD hS hl
  have hy0 : -2147483648 ≤ (0 : Int) ∧ (0 : Int) < 2147483648 := by decide
  have w := iI_eq hx0 hy0
  rw [show Int32.ofInt 0 = 0 from rfl] at w
  exact lv_if_ne hx hb d ht (fun q => kt (by first | exact w.mp q | exact fun z => q (w.mpr z)) H locs ls hP hD hS hl) (fun q => kf (by first | exact w.mp q | exact fun z => q (w.mpr z)) H locs ls hP hD hS hl)
theorem z_ifz (C : zX V p l e R s m args below meth c D tys tw A cc Ts own nL ret Q) {b : Bool} {off : Int} {tgt : Nat} (d : decode cc pc = .ok (.ifCond .eq off, 3)) (ht : (pc : Int) + off = (tgt : Int)) (kt : b = false → V k n ws lv st tgt) (kf : b = true → V k n ws lv st (pc + 3)) : V k n ws lv (vI (b2i b) :: st) pc :=
  z_if_eq C (by have := b2i_01 b; omega) d ht (fun q => kt (b2i_0.mp q)) (fun q => kf (by cases b with | false => exact absurd rfl q | true => rfl))
theorem z_ifnz (C : zX V p l e R s m args below meth c D tys tw A cc Ts own nL ret Q) {b : Bool} {off : Int} {tgt : Nat} (d : decode cc pc = .ok (.ifCond .ne off, 3)) (ht : (pc : Int) + off = (tgt : Int)) (kt : b = true → V k n ws lv st tgt) (kf : b = false → V k n ws lv st (pc + 3)) : V k n ws lv (vI (b2i b) :: st) pc :=
  z_if_ne C (by have := b2i_01 b; omega) d ht (fun q => kt (by cases b with | false => exact absurd rfl q | true => rfl)) (fun q => kf (b2i_0.mp q))
theorem z_get (C : zX V p l e R s m args below meth c D tys tw A cc Ts own nL ret Q) {ref CN : String} {T : u_T} {N ci index : Nat} (hin : ∀ w ∈ u_ws CN T N, w ∈ Ts) (hc : vwCl[ci]? = some (CN, T, N)) (q0 : Nat) {fs : List Value} {a : Nat} (he : ws[q0]? = some (a, .inr (ci, fs))) (i : Nat) (hi : i < N) (hl0 : Cond.fieldLink own index ref (T i).2.1 (T i).2.2.1 ∈ Ts) (href : (T i).1 = ref) {v : Value} (hv : fs[i]? = some v) (d : decode cc pc = .ok (.getfield index, 3)) (kk : V k n ws lv (v :: st) (pc + 3)) : V k n ws lv (.ref a :: st) pc := by
  obtain ⟨⟨hx, hb, hml, hown, hts⟩, hK, hE, hA, hr, hlk, rfl⟩ := C
  intro H locs ls hP hD hS hl
  subst href
  exact va_get hx hb hts hin hown hK hP q0 he hc i hi (hts _ hl0) (fun _ h => h) hv d (kk H locs ls hP hD hS hl)
theorem z_put (C : zX V p l e R s m args below meth c D tys tw A cc Ts own nL ret Q) {ref CN : String} {T : u_T} {N ci index : Nat} (hin : ∀ w ∈ u_ws CN T N, w ∈ Ts) (ty0 : Nat → FieldType) (hty : ∀ k, k < N → parseFieldDescriptor (T k).2.2.1 = some (ty0 k)) (hnm : ∀ a, a < N → ∀ b, b < N → a ≠ b → (T a).2.1 ≠ (T b).2.1) (hc : vwCl[ci]? = some (CN, T, N)) (q0 : Nat) {fs : List Value} {a : Nat} (he : ws[q0]? = some (a, .inr (ci, fs))) (i : Nat) (hi : i < N) (hl0 : Cond.fieldLink own index ref (T i).2.1 (T i).2.2.1 ∈ Ts) (href : (T i).1 = ref) (hfin : (T i).2.2.2 = false) {v : Value} (hn : narrow (ty0 i) v = v) (hfit : fits (ty0 i) v = true) (hlen : i < fs.length) (d : decode cc pc = .ok (.putfield index, 3)) {ws' : va_W} (hw : ws.set q0 (a, .inr (ci, fs.set i v)) = ws') (kk : V k n ws' lv st (pc + 3)) : V k n ws lv (v :: .ref a :: st) pc := by
  obtain ⟨⟨hx, hb, hml, hown, hts⟩, hK, hE, hA, hr, hlk, rfl⟩ := C
  intro H locs ls hP hD hS hl
  subst href
  subst hw
  exact va_put hx hb hts hin ty0 hty hnm hown hK hP hD hS q0 he hc i hi (hts _ hl0) (fun _ h => h) hfin (hty i hi) hn hfit hlen d (fun H1 locs1 hP hD hS => kk H1 locs1 ls hP hD hS hl)
theorem z_putF (C : zX V p l e R s m args below meth c D tys tw A cc Ts own nL ret Q) {ref CN : String} {T : u_T} {N ci index : Nat} (hmn : meth.name = "<init>") (hin : ∀ w ∈ u_ws CN T N, w ∈ Ts) (ty0 : Nat → FieldType) (hty : ∀ k, k < N → parseFieldDescriptor (T k).2.2.1 = some (ty0 k)) (hnm : ∀ a, a < N → ∀ b, b < N → a ≠ b → (T a).2.1 ≠ (T b).2.1) (hc : vwCl[ci]? = some (CN, T, N)) (q0 : Nat) {fs : List Value} {a : Nat} (he : ws[q0]? = some (a, .inr (ci, fs))) (i : Nat) (hi : i < N) (hl0 : Cond.fieldLink own index ref (T i).2.1 (T i).2.2.1 ∈ Ts) (href : (T i).1 = ref) (hdecl : (T i).1 = own) (hfin : (T i).2.2.2 = true) {v : Value} (hn : narrow (ty0 i) v = v) (hfit : fits (ty0 i) v = true) (hlen : i < fs.length) (d : decode cc pc = .ok (.putfield index, 3)) {ws' : va_W} (hw : ws.set q0 (a, .inr (ci, fs.set i v)) = ws') (kk : V k n ws' lv st (pc + 3)) : V k n ws lv (v :: .ref a :: st) pc := by
  obtain ⟨⟨hx, hb, hml, hown, hts⟩, hK, hE, hA, hr, hlk, rfl⟩ := C
  intro H locs ls hP hD hS hl
  subst href
  subst hw
  exact va_putF hx hb hts hin ty0 hty hnm hown hK hP hD hS q0 he hc i hi (hts _ hl0) (fun _ h => h) hfin hmn hdecl (hty i hi) hn hfit hlen d (fun H1 locs1 hP hD hS => kk H1 locs1 ls hP hD hS hl)
theorem z_narZ (b : Bool) : narrow .boolean (vI (b2i b)) = vI (b2i b) ∧ fits .boolean (vI (b2i b)) = true := by cases b <;> exact ⟨by decide, by decide⟩
theorem z_narI (x : Int) : narrow .int (vI x) = vI x ∧ fits .int (vI x) = true := ⟨rfl, rfl⟩
theorem z_iald (C : zX V p l e R s m args below meth c D tys tw A cc Ts own nL ret Q) (q0 t0 : Nat) {a : Nat} {cA : ClassId} {N : Nat} {g : Nat → Int} (he : ws[q0]? = some (a, aI cA N g)) (ht : tys[t0]? = some (cA, .int)) {x : Int} (h0 : 0 ≤ x) (h1 : x < (N : Int)) (hN : (N : Int) ≤ 2147483647) (d : decode cc pc = .ok (.iaload, 1)) (kk : V k n ws lv (vI (g x.toNat) :: st) (pc + 1)) : V k n ws lv (vI x :: .ref a :: st) pc := by
  obtain ⟨⟨hx, hb, hml, hown, hts⟩, hK, hE, hA, hr, hlk, rfl⟩ := C
  intro H locs ls hP hD hS hl
  refine va_iald hx hb hK hP q0 t0 he ht (iI_in h0 h1 hN) d ?_
  rw [iI_nat h0 (by omega)]
  exact kk H locs ls hP hD hS hl
theorem z_bald (C : zX V p l e R s m args below meth c D tys tw A cc Ts own nL ret Q) (q0 t0 : Nat) {a : Nat} {cA : ClassId} {N : Nat} {g : Nat → Int} (he : ws[q0]? = some (a, aB cA N g)) (ht : tys[t0]? = some (cA, .byte)) {x : Int} (h0 : 0 ≤ x) (h1 : x < (N : Int)) (hN : (N : Int) ≤ 2147483647) (d : decode cc pc = .ok (.baload, 1)) (kk : V k n ws lv (vI (sb (g x.toNat)) :: st) (pc + 1)) : V k n ws lv (vI x :: .ref a :: st) pc := by
  obtain ⟨⟨hx, hb, hml, hown, hts⟩, hK, hE, hA, hr, hlk, rfl⟩ := C
  intro H locs ls hP hD hS hl
  refine va_bald hx hb hK hP q0 t0 he ht (iI_in h0 h1 hN) d ?_
  rw [iI_nat h0 (by omega)]
  exact kk H locs ls hP hD hS hl
theorem z_zald (C : zX V p l e R s m args below meth c D tys tw A cc Ts own nL ret Q) (q0 t0 : Nat) {a : Nat} {cA : ClassId} {N : Nat} {g : Nat → Bool} (he : ws[q0]? = some (a, aZ cA N g)) (ht : tys[t0]? = some (cA, .boolean)) {x : Int} (h0 : 0 ≤ x) (h1 : x < (N : Int)) (hN : (N : Int) ≤ 2147483647) (d : decode cc pc = .ok (.baload, 1)) (kk : V k n ws lv (vI (b2i (g x.toNat)) :: st) (pc + 1)) : V k n ws lv (vI x :: .ref a :: st) pc := by
  obtain ⟨⟨hx, hb, hml, hown, hts⟩, hK, hE, hA, hr, hlk, rfl⟩ := C
  intro H locs ls hP hD hS hl
  refine va_zald hx hb hK hP q0 t0 he ht (iI_in h0 h1 hN) d ?_
  rw [iI_nat h0 (by omega)]
  exact kk H locs ls hP hD hS hl
theorem z_lald (C : zX V p l e R s m args below meth c D tys tw A cc Ts own nL ret Q) (q0 t0 : Nat) {a : Nat} {cA : ClassId} {N : Nat} {g : Nat → BitVec 64} (he : ws[q0]? = some (a, aJ cA N g)) (ht : tys[t0]? = some (cA, .long)) {x : Int} (h0 : 0 ≤ x) (h1 : x < (N : Int)) (hN : (N : Int) ≤ 2147483647) (d : decode cc pc = .ok (.laload, 1)) (kk : V k n ws lv (vJ (g x.toNat) :: st) (pc + 1)) : V k n ws lv (vI x :: .ref a :: st) pc := by
  obtain ⟨⟨hx, hb, hml, hown, hts⟩, hK, hE, hA, hr, hlk, rfl⟩ := C
  intro H locs ls hP hD hS hl
  refine va_lald hx hb hK hP q0 t0 he ht (iI_in h0 h1 hN) d ?_
  rw [iI_nat h0 (by omega)]
  exact kk H locs ls hP hD hS hl
theorem z_alen (C : zX V p l e R s m args below meth c D tys tw A cc Ts own nL ret Q) (q0 t0 : Nat) {a : Nat} {cA : ClassId} {x : vp_A} (he : ws[q0]? = some (a, .inl (cA, x))) {ty : FieldType} (ht : tys[t0]? = some (cA, ty)) {N : Nat} (hN : x.1 = N) (d : decode cc pc = .ok (.arraylength, 1)) (kk : V k n ws lv (vI (N : Int) :: st) (pc + 1)) : V k n ws lv (.ref a :: st) pc := by
  obtain ⟨⟨hx, hb, hml, hown, hts⟩, hK, hE, hA, hr, hlk, rfl⟩ := C
  intro H locs ls hP hD hS hl
  subst hN
  refine va_alen hx hb hK hP q0 t0 he ht (v := Int32.ofInt (x.1 : Int)) (by rw [iI_nI]; rfl) d ?_
  exact kk H locs ls hP hD hS hl
theorem z_updI (g : Nat → Int) (j : Nat) (y : Int) : upd (fun i => Int32.ofInt (g i)) j (Int32.ofInt y) = fun i => Int32.ofInt (va_up g j y i) := by
  funext i
  unfold upd va_up
  split <;> rfl
theorem z_iast (C : zX V p l e R s m args below meth c D tys tw A cc Ts own nL ret Q) (q0 t0 : Nat) {a : Nat} {cA : ClassId} {N : Nat} {g : Nat → Int} (he : ws[q0]? = some (a, aI cA N g)) (ht : tys[t0]? = some (cA, .int)) {x y : Int} (h0 : 0 ≤ x) (h1 : x < (N : Int)) (hN : (N : Int) ≤ 2147483647) (d : decode cc pc = .ok (.iastore, 1)) {ws' : va_W} (hw : ws.set q0 (a, aI cA N (va_up g x.toNat y)) = ws') (kk : V k n ws' lv st (pc + 1)) : V k n ws lv (vI y :: vI x :: .ref a :: st) pc := by
  obtain ⟨⟨hx, hb, hml, hown, hts⟩, hK, hE, hA, hr, hlk, rfl⟩ := C
  intro H locs ls hP hD hS hl
  refine va_iast hx hb hK hP hD hS q0 t0 he ht (iI_in h0 h1 hN) d (fun H1 locs1 hP hD hS => ?_)
  rw [iI_nat h0 (by omega), z_updI] at hP hD
  subst hw
  exact kk H1 locs1 ls hP hD hS hl
theorem z_bast (C : zX V p l e R s m args below meth c D tys tw A cc Ts own nL ret Q) (q0 t0 : Nat) {a : Nat} {cA : ClassId} {N : Nat} {g : Nat → Int} (he : ws[q0]? = some (a, aB cA N g)) (ht : tys[t0]? = some (cA, .byte)) {x y : Int} (h0 : 0 ≤ x) (h1 : x < (N : Int)) (hN : (N : Int) ≤ 2147483647) (d : decode cc pc = .ok (.bastore, 1)) {ws' : va_W} (hw : ws.set q0 (a, aB cA N (va_up g x.toNat y)) = ws') (kk : V k n ws' lv st (pc + 1)) : V k n ws lv (vI y :: vI x :: .ref a :: st) pc := by
  obtain ⟨⟨hx, hb, hml, hown, hts⟩, hK, hE, hA, hr, hlk, rfl⟩ := C
  intro H locs ls hP hD hS hl
  refine va_bast hx hb hK hP hD hS q0 t0 he ht (iI_in h0 h1 hN) d (fun H1 locs1 hP hD hS => ?_)
  have e : upd (fun i => Int32.ofInt (sb (g i))) x.toNat (vp_nar .byte (Int32.ofInt y)) = fun i => Int32.ofInt (sb (va_up g x.toNat y i)) := by
    funext i
    rw [vp_nar_byte, sb_8]
    unfold upd va_up
    split <;> rfl
  rw [iI_nat h0 (by omega), e] at hP hD
  subst hw
  exact kk H1 locs1 ls hP hD hS hl
theorem z_zast (C : zX V p l e R s m args below meth c D tys tw A cc Ts own nL ret Q) (q0 t0 : Nat) {a : Nat} {cA : ClassId} {N : Nat} {g : Nat → Bool} (he : ws[q0]? = some (a, aZ cA N g)) (ht : tys[t0]? = some (cA, .boolean)) {x : Int} {b : Bool} (h0 : 0 ≤ x) (h1 : x < (N : Int)) (hN : (N : Int) ≤ 2147483647) (d : decode cc pc = .ok (.bastore, 1)) {ws' : va_W} (hw : ws.set q0 (a, aZ cA N (va_up g x.toNat b)) = ws') (kk : V k n ws' lv st (pc + 1)) : V k n ws lv (vI (b2i b) :: vI x :: .ref a :: st) pc := by
  obtain ⟨⟨hx, hb, hml, hown, hts⟩, hK, hE, hA, hr, hlk, rfl⟩ := C
  intro H locs ls hP hD hS hl
  refine va_zast hx hb hK hP hD hS q0 t0 he ht (iI_in h0 h1 hN) d (fun H1 locs1 hP hD hS => ?_)
  have e : upd (fun i => Int32.ofInt (b2i (g i))) x.toNat (vp_nar .boolean (Int32.ofInt (b2i b))) = fun i => Int32.ofInt (b2i (va_up g x.toNat b i)) := by
    funext i
    rw [show vp_nar .boolean (Int32.ofInt (b2i b)) = Int32.ofInt (b2i b) by cases b <;> decide]
    unfold upd va_up
    split <;> rfl
  rw [iI_nat h0 (by omega), e] at hP hD
  subst hw
  exact kk H1 locs1 ls hP hD hS hl
theorem z_last (C : zX V p l e R s m args below meth c D tys tw A cc Ts own nL ret Q) (q0 t0 : Nat) {a : Nat} {cA : ClassId} {N : Nat} {g : Nat → BitVec 64} (he : ws[q0]? = some (a, aJ cA N g)) (ht : tys[t0]? = some (cA, .long)) {x : Int} {y : BitVec 64} (h0 : 0 ≤ x) (h1 : x < (N : Int)) (hN : (N : Int) ≤ 2147483647) (d : decode cc pc = .ok (.lastore, 1)) {ws' : va_W} (hw : ws.set q0 (a, aJ cA N (va_up g x.toNat y)) = ws') (kk : V k n ws' lv st (pc + 1)) : V k n ws lv (vJ y :: vI x :: .ref a :: st) pc := by
  obtain ⟨⟨hx, hb, hml, hown, hts⟩, hK, hE, hA, hr, hlk, rfl⟩ := C
  intro H locs ls hP hD hS hl
  refine va_last hx hb hK hP hD hS q0 t0 he ht (iI_in h0 h1 hN) d (fun H1 locs1 hP hD hS => ?_)
  have e : vp_updL (fun i => Int64.ofBitVec (g i)) x.toNat (Int64.ofBitVec y) = fun i => Int64.ofBitVec (va_up g x.toNat y i) := by
    funext i
    unfold vp_updL va_up
    split <;> rfl
  rw [iI_nat h0 (by omega), e] at hP hD
  subst hw
  exact kk H1 locs1 ls hP hD hS hl
theorem z_mmax (C : zX V p l e R s m args below meth c D tys tw A cc Ts own nL ret Q) {index : Nat} (h1 : Cond.methodLink own index Lib.Math.max.name ∈ Ts) (h2 : Cond.static Lib.Math.max.name ∈ Ts) (h3 : Cond.initialized "java/lang/Math" ∈ Ts) (h4 : Cond.code Lib.Math.max.name Lib.Math.max.code 2 (some .int) ∈ Ts) (hR : 1 ≤ R.frames) (hR2 : (st.map fun v => v.category).sum + 13 ≤ R.locals) (hkR : k ≤ R.cells) (hnR : n ≤ R.slots) {x y : Int} (hx0 : -2147483648 ≤ x ∧ x < 2147483648) (hy0 : -2147483648 ≤ y ∧ y < 2147483648) (d : decode cc pc = .ok (.invokestatic index, 3)) (kk : V k n ws lv (vI (if x < y then y else x) :: st) (pc + 3)) : V k n ws lv (vI y :: vI x :: st) pc := by
  obtain ⟨⟨hx, hb, hml, hown, hts⟩, hK, hE, hA, hr, hlk, rfl⟩ := C
  intro H locs ls hP hD hS hl
  refine va_mmax hx hb (hml.trans hl.1.symm) hown (hts _ h1) (hts _ h2) (hts _ h3) (hts _ h4) hR hR2 hkR hnR d ?_
  have w := iI_lt hx0 hy0
  have h := kk H locs ls hP hD hS hl
  unfold vI at h
  by_cases hc : x < y
  · rw [if_pos hc] at h; rw [if_pos (w.mpr hc)]; exact h
  · rw [if_neg hc] at h; rw [if_neg (fun z => hc (w.mp z))]; exact h
theorem z_mmin (C : zX V p l e R s m args below meth c D tys tw A cc Ts own nL ret Q) {index : Nat} (h1 : Cond.methodLink own index Lib.Math.min.name ∈ Ts) (h2 : Cond.static Lib.Math.min.name ∈ Ts) (h3 : Cond.initialized "java/lang/Math" ∈ Ts) (h4 : Cond.code Lib.Math.min.name Lib.Math.min.code 2 (some .int) ∈ Ts) (hR : 1 ≤ R.frames) (hR2 : (st.map fun v => v.category).sum + 13 ≤ R.locals) (hkR : k ≤ R.cells) (hnR : n ≤ R.slots) {x y : Int} (hx0 : -2147483648 ≤ x ∧ x < 2147483648) (hy0 : -2147483648 ≤ y ∧ y < 2147483648) (d : decode cc pc = .ok (.invokestatic index, 3)) (kk : V k n ws lv (vI (if y < x then y else x) :: st) (pc + 3)) : V k n ws lv (vI y :: vI x :: st) pc := by
  obtain ⟨⟨hx, hb, hml, hown, hts⟩, hK, hE, hA, hr, hlk, rfl⟩ := C
  intro H locs ls hP hD hS hl
  refine va_mmin hx hb (hml.trans hl.1.symm) hown (hts _ h1) (hts _ h2) (hts _ h3) (hts _ h4) hR hR2 hkR hnR d ?_
  have w := iI_lt hy0 hx0
  have h := kk H locs ls hP hD hS hl
  unfold vI at h
  by_cases hc : y < x
  · rw [if_pos hc] at h; rw [if_pos (w.mpr hc)]; exact h
  · rw [if_neg hc] at h; rw [if_neg (fun z => hc (w.mp z))]; exact h
theorem z_objInit (C : zX V p l e R s m args below meth c D tys tw A cc Ts own nL ret Q) {index a : Nat} (h1 : Cond.methodLink own index objectInit ∈ Ts) (h2 : Cond.instanceMethod objectInit ∈ Ts) (h3 : Cond.code objectInit ⟨#[0xb1]⟩ 1 none ∈ Ts) (hR : 1 ≤ R.frames) (hR2 : (st.map fun v => v.category).sum + 12 ≤ R.locals) (d : decode cc pc = .ok (.invokespecial index, 3)) (kk : V k n ws lv st (pc + 3)) : V k n ws lv (.ref a :: st) pc := by
  obtain ⟨⟨hx, hb, hml, hown, hts⟩, hK, hE, hA, hr, hlk, rfl⟩ := C
  intro H locs ls hP hD hS hl
  refine W.objInit hx hb hown (hts _ h1) (hts _ h2) (hts _ h3) rfl (by rw [hml]; exact hl.1) rfl d hR ?_ (kk H locs ls hP hD hS hl)
  show 2 * 0 + _ + 12 ≤ _
  omega
theorem z_land (C : zX V p l e R s m args below meth c D tys tw A cc Ts own nL ret Q) {x y : BitVec 64} (d : decode cc pc = .ok (.land, 1)) (kk : V k n ws lv (vJ (x &&& y) :: st) (pc + 1)) : V k n ws lv (vJ y :: vJ x :: st) pc := by
  obtain ⟨⟨hx, hb, hml, hown, hts⟩, hK, hE, hA, hr, hlk, rfl⟩ := C
  intro H locs ls hP hD hS hl
  exact lv_land hx hb d (kk H locs ls hP hD hS hl)
theorem z_lor (C : zX V p l e R s m args below meth c D tys tw A cc Ts own nL ret Q) {x y : BitVec 64} (d : decode cc pc = .ok (.lor, 1)) (kk : V k n ws lv (vJ (x ||| y) :: st) (pc + 1)) : V k n ws lv (vJ y :: vJ x :: st) pc := by
  obtain ⟨⟨hx, hb, hml, hown, hts⟩, hK, hE, hA, hr, hlk, rfl⟩ := C
  intro H locs ls hP hD hS hl
  exact lv_lor hx hb d (kk H locs ls hP hD hS hl)
theorem z_lxor (C : zX V p l e R s m args below meth c D tys tw A cc Ts own nL ret Q) {x y : BitVec 64} (d : decode cc pc = .ok (.lxor, 1)) (kk : V k n ws lv (vJ (x ^^^ y) :: st) (pc + 1)) : V k n ws lv (vJ y :: vJ x :: st) pc := by
  obtain ⟨⟨hx, hb, hml, hown, hts⟩, hK, hE, hA, hr, hlk, rfl⟩ := C
  intro H locs ls hP hD hS hl
  exact lv_lxor hx hb d (kk H locs ls hP hD hS hl)
theorem z_ladd (C : zX V p l e R s m args below meth c D tys tw A cc Ts own nL ret Q) {x y : BitVec 64} (d : decode cc pc = .ok (.ladd, 1)) (kk : V k n ws lv (vJ (x + y) :: st) (pc + 1)) : V k n ws lv (vJ y :: vJ x :: st) pc := by
  obtain ⟨⟨hx, hb, hml, hown, hts⟩, hK, hE, hA, hr, hlk, rfl⟩ := C
  intro H locs ls hP hD hS hl
  exact lv_ladd hx hb d (kk H locs ls hP hD hS hl)
theorem z_lsub2 (C : zX V p l e R s m args below meth c D tys tw A cc Ts own nL ret Q) {x y : BitVec 64} (d : decode cc pc = .ok (.lsub, 1)) (kk : V k n ws lv (vJ (x - y) :: st) (pc + 1)) : V k n ws lv (vJ y :: vJ x :: st) pc := by
  obtain ⟨⟨hx, hb, hml, hown, hts⟩, hK, hE, hA, hr, hlk, rfl⟩ := C
  intro H locs ls hP hD hS hl
  exact lv_lsub hx hb d (kk H locs ls hP hD hS hl)
theorem z_lneg (C : zX V p l e R s m args below meth c D tys tw A cc Ts own nL ret Q) {x : BitVec 64} (d : decode cc pc = .ok (.lneg, 1)) (kk : V k n ws lv (vJ (-x) :: st) (pc + 1)) : V k n ws lv (vJ x :: st) pc := by
  obtain ⟨⟨hx, hb, hml, hown, hts⟩, hK, hE, hA, hr, hlk, rfl⟩ := C
  intro H locs ls hP hD hS hl
  refine lv_lneg hx hb d ?_
  have h := kk H locs ls hP hD hS hl
  first | exact h | (rw [show Int64.ofBitVec x = Int64.ofBitVec x from rfl] at h; simpa [vJ] using h)
theorem z_lshl (C : zX V p l e R s m args below meth c D tys tw A cc Ts own nL ret Q) {x : BitVec 64} {y : Int} (j : Nat) (hy : -2147483648 ≤ y ∧ y < 2147483648) (hj : (y % 64).toNat = j) (d : decode cc pc = .ok (.lshl, 1)) (kk : V k n ws lv (vJ (x <<< j) :: st) (pc + 1)) : V k n ws lv (vI y :: vJ x :: st) pc := by
  obtain ⟨⟨hx, hb, hml, hown, hts⟩, hK, hE, hA, hr, hlk, rfl⟩ := C
  intro H locs ls hP hD hS hl
  subst hj
  exact lv_lshl hx hb d (jI_shl x hy) (kk H locs ls hP hD hS hl)
theorem z_lushr (C : zX V p l e R s m args below meth c D tys tw A cc Ts own nL ret Q) {x : BitVec 64} {y : Int} (j : Nat) (hy : -2147483648 ≤ y ∧ y < 2147483648) (hj : (y % 64).toNat = j) (d : decode cc pc = .ok (.lushr, 1)) (kk : V k n ws lv (vJ (x >>> j) :: st) (pc + 1)) : V k n ws lv (vI y :: vJ x :: st) pc := by
  obtain ⟨⟨hx, hb, hml, hown, hts⟩, hK, hE, hA, hr, hlk, rfl⟩ := C
  intro H locs ls hP hD hS hl
  subst hj
  exact lv_lushr hx hb d (jI_ushr x hy) (kk H locs ls hP hD hS hl)
theorem z_lshr (C : zX V p l e R s m args below meth c D tys tw A cc Ts own nL ret Q) {x : BitVec 64} {y : Int} (j : Nat) (hy : -2147483648 ≤ y ∧ y < 2147483648) (hj : (y % 64).toNat = j) (d : decode cc pc = .ok (.lshr, 1)) (kk : V k n ws lv (vJ (BitVec.sshiftRight x j) :: st) (pc + 1)) : V k n ws lv (vI y :: vJ x :: st) pc := by
  obtain ⟨⟨hx, hb, hml, hown, hts⟩, hK, hE, hA, hr, hlk, rfl⟩ := C
  intro H locs ls hP hD hS hl
  subst hj
  exact lv_lshr hx hb d (jI_shr x hy) (kk H locs ls hP hD hS hl)
theorem z_i2l (C : zX V p l e R s m args below meth c D tys tw A cc Ts own nL ret Q) {x : Int} (hx0 : -2147483648 ≤ x ∧ x < 2147483648) (d : decode cc pc = .ok (.i2l, 1)) (kk : V k n ws lv (vJ (BitVec.ofInt 64 x) :: st) (pc + 1)) : V k n ws lv (vI x :: st) pc := by
  obtain ⟨⟨hx, hb, hml, hown, hts⟩, hK, hE, hA, hr, hlk, rfl⟩ := C
  intro H locs ls hP hD hS hl
  exact lv_i2l hx hb d (jI_ext hx0) (kk H locs ls hP hD hS hl)
theorem z_l2i (C : zX V p l e R s m args below meth c D tys tw A cc Ts own nL ret Q) {x : BitVec 64} (d : decode cc pc = .ok (.l2i, 1)) (kk : V k n ws lv (vI x.toInt :: st) (pc + 1)) : V k n ws lv (vJ x :: st) pc := by
  obtain ⟨⟨hx, hb, hml, hown, hts⟩, hK, hE, hA, hr, hlk, rfl⟩ := C
  intro H locs ls hP hD hS hl
  exact lv_l2i hx hb d (jI_low x) (kk H locs ls hP hD hS hl)
theorem z_lcmp (C : zX V p l e R s m args below meth c D tys tw A cc Ts own nL ret Q) {x y : BitVec 64} (d : decode cc pc = .ok (.lcmp, 1)) (kk : V k n ws lv (vI (lcm x y) :: st) (pc + 1)) : V k n ws lv (vJ y :: vJ x :: st) pc := by
  obtain ⟨⟨hx, hb, hml, hown, hts⟩, hK, hE, hA, hr, hlk, rfl⟩ := C
  intro H locs ls hP hD hS hl
  refine W.lcmp hx hb d ?_
  rw [lcm_eq]
  exact kk H locs ls hP hD hS hl
theorem z_ior63 (C : zX V p l e R s m args below meth c D tys tw A cc Ts own nL ret Q) {x : Int} (hx0 : 0 ≤ x ∧ x < 2147483648) (d : decode cc pc = .ok (.ior, 1)) (kk : V k n ws lv (vI (x / 64 * 64 + 63) :: st) (pc + 1)) : V k n ws lv (vI 63 :: vI x :: st) pc := by
  obtain ⟨⟨hx, hb, hml, hown, hts⟩, hK, hE, hA, hr, hlk, rfl⟩ := C
  intro H locs ls hP hD hS hl
  refine lv_ior hx hb d ?_
  rw [iI_or63 hx0]
  exact kk H locs ls hP hD hS hl
theorem z_not (C : zX V p l e R s m args below meth c D tys tw A cc Ts own nL ret Q) {b : Bool} (d1 : decode cc pc = .ok (.ifCond .ne 7, 3)) (d2 : decode cc (pc + 3) = .ok (.iconst 1, 1)) (d3 : decode cc (pc + 3 + 1) = .ok (.goto 4, 3)) (d4 : decode cc (pc + 7) = .ok (.iconst 0, 1)) (kk : V k n ws lv (vI (b2i (!b)) :: st) (pc + 8)) : V k n ws lv (vI (b2i b) :: st) pc := by
  refine z_ifnz C (tgt := pc + 7) d1 (by omega) (fun h => ?_) (fun h => ?_)
  · subst h
    exact z_iconst C d4 kk
  · subst h
    refine z_iconst C d2 ?_
    exact z_goto C (tgt := pc + 8) d3 (by omega) kk
theorem z_eqb (C : zX V p l e R s m args below meth c D tys tw A cc Ts own nL ret Q) {b b' : Bool} (d1 : decode cc pc = .ok (.if_icmp .ne 7, 3)) (d2 : decode cc (pc + 3) = .ok (.iconst 1, 1)) (d3 : decode cc (pc + 3 + 1) = .ok (.goto 4, 3)) (d4 : decode cc (pc + 7) = .ok (.iconst 0, 1)) (kk : V k n ws lv (vI (b2i (b == b')) :: st) (pc + 8)) : V k n ws lv (vI (b2i b') :: vI (b2i b) :: st) pc := by
  have r1 := b2i_01 b
  have r2 := b2i_01 b'
  refine z_icmp_ne C (by omega) (by omega) (tgt := pc + 7) d1 (by omega) (fun h => ?_) (fun h => ?_)
  · rw [show (b == b') = false by cases b <;> cases b' <;> simp_all [b2i]] at kk
    exact z_iconst C d4 kk
  · rw [show (b == b') = true by cases b <;> cases b' <;> simp_all [b2i]] at kk
    refine z_iconst C d2 ?_
    exact z_goto C (tgt := pc + 8) d3 (by omega) kk
theorem z_selz (C : zX V p l e R s m args below meth c D tys tw A cc Ts own nL ret Q) {x : Int} {op : Jvm.ClassFile.Cond} (cnd : Int → Bool) (hx0 : -2147483648 ≤ x ∧ x < 2147483648) (hop : (op = .eq ∧ cnd = fun z => decide (¬ z = 0)) ∨ (op = .ne ∧ cnd = fun z => decide (z = 0)) ∨ (op = .lt ∧ cnd = fun z => decide (0 ≤ z)) ∨ (op = .ge ∧ cnd = fun z => decide (z < 0)) ∨ (op = .gt ∧ cnd = fun z => decide (z ≤ 0)) ∨ (op = .le ∧ cnd = fun z => decide (0 < z))) (d1 : decode cc pc = .ok (.ifCond op 7, 3)) (d2 : decode cc (pc + 3) = .ok (.iconst 1, 1)) (d3 : decode cc (pc + 3 + 1) = .ok (.goto 4, 3)) (d4 : decode cc (pc + 7) = .ok (.iconst 0, 1)) (kk : V k n ws lv (vI (b2i (cnd x)) :: st) (pc + 8)) : V k n ws lv (vI x :: st) pc := by
  have ht : cnd x = true → V k n ws lv st (pc + 3) := fun h => by
    rw [h] at kk
    refine z_iconst C d2 ?_
    exact z_goto C (tgt := pc + 8) d3 (by omega) kk
  have hf : cnd x = false → V k n ws lv st (pc + 7) := fun h => by
    rw [h] at kk
    exact z_iconst C d4 kk
  rcases hop with ⟨rfl, rfl⟩ | ⟨rfl, rfl⟩ | ⟨rfl, rfl⟩ | ⟨rfl, rfl⟩ | ⟨rfl, rfl⟩ | ⟨rfl, rfl⟩
  · exact z_if_eq C hx0 (tgt := pc + 7) d1 (by omega) (fun h => hf (decide_eq_false (by omega))) (fun h => ht (decide_eq_true (by omega)))
  · exact z_if_ne C hx0 (tgt := pc + 7) d1 (by omega) (fun h => hf (decide_eq_false (by omega))) (fun h => ht (decide_eq_true (by omega)))
  · exact z_if_lt C hx0 (tgt := pc + 7) d1 (by omega) (fun h => hf (decide_eq_false (by omega))) (fun h => ht (decide_eq_true (by omega)))
  · exact z_if_ge C hx0 (tgt := pc + 7) d1 (by omega) (fun h => hf (decide_eq_false (by omega))) (fun h => ht (decide_eq_true (by omega)))
  · exact z_if_gt C hx0 (tgt := pc + 7) d1 (by omega) (fun h => hf (decide_eq_false (by omega))) (fun h => ht (decide_eq_true (by omega)))
  · exact z_if_le C hx0 (tgt := pc + 7) d1 (by omega) (fun h => hf (decide_eq_false (by omega))) (fun h => ht (decide_eq_true (by omega)))
theorem z_sel2 (C : zX V p l e R s m args below meth c D tys tw A cc Ts own nL ret Q) {x y : Int} {op : Jvm.ClassFile.Cond} (cnd : Int → Int → Bool) (hx0 : -2147483648 ≤ x ∧ x < 2147483648) (hy0 : -2147483648 ≤ y ∧ y < 2147483648) (hop : (op = .eq ∧ cnd = fun z w => decide (¬ z = w)) ∨ (op = .ne ∧ cnd = fun z w => decide (z = w)) ∨ (op = .lt ∧ cnd = fun z w => decide (w ≤ z)) ∨ (op = .ge ∧ cnd = fun z w => decide (z < w)) ∨ (op = .gt ∧ cnd = fun z w => decide (z ≤ w)) ∨ (op = .le ∧ cnd = fun z w => decide (w < z))) (d1 : decode cc pc = .ok (.if_icmp op 7, 3)) (d2 : decode cc (pc + 3) = .ok (.iconst 1, 1)) (d3 : decode cc (pc + 3 + 1) = .ok (.goto 4, 3)) (d4 : decode cc (pc + 7) = .ok (.iconst 0, 1)) (kk : V k n ws lv (vI (b2i (cnd x y)) :: st) (pc + 8)) : V k n ws lv (vI y :: vI x :: st) pc := by
  have ht : cnd x y = true → V k n ws lv st (pc + 3) := fun h => by
    rw [h] at kk
    refine z_iconst C d2 ?_
    exact z_goto C (tgt := pc + 8) d3 (by omega) kk
  have hf : cnd x y = false → V k n ws lv st (pc + 7) := fun h => by
    rw [h] at kk
    exact z_iconst C d4 kk
  rcases hop with ⟨rfl, rfl⟩ | ⟨rfl, rfl⟩ | ⟨rfl, rfl⟩ | ⟨rfl, rfl⟩ | ⟨rfl, rfl⟩ | ⟨rfl, rfl⟩
  · exact z_icmp_eq C hx0 hy0 (tgt := pc + 7) d1 (by omega) (fun h => hf (decide_eq_false (by omega))) (fun h => ht (decide_eq_true (by omega)))
  · exact z_icmp_ne C hx0 hy0 (tgt := pc + 7) d1 (by omega) (fun h => hf (decide_eq_false (by omega))) (fun h => ht (decide_eq_true (by omega)))
  · exact z_icmp_lt C hx0 hy0 (tgt := pc + 7) d1 (by omega) (fun h => hf (decide_eq_false (by omega))) (fun h => ht (decide_eq_true (by omega)))
  · exact z_icmp_ge C hx0 hy0 (tgt := pc + 7) d1 (by omega) (fun h => hf (decide_eq_false (by omega))) (fun h => ht (decide_eq_true (by omega)))
  · exact z_icmp_gt C hx0 hy0 (tgt := pc + 7) d1 (by omega) (fun h => hf (decide_eq_false (by omega))) (fun h => ht (decide_eq_true (by omega)))
  · exact z_icmp_le C hx0 hy0 (tgt := pc + 7) d1 (by omega) (fun h => hf (decide_eq_false (by omega))) (fun h => ht (decide_eq_true (by omega)))
theorem z_statlen0 (C : zX V p l e R s m args below meth c D tys tw A cc Ts own nL ret Q) (d : decode cc pc = .ok (.arraylength, 1)) (kk : V k n ws lv (vI 9 :: st) (pc + 1)) : V k n ws lv (.ref (tw 0) :: st) pc := by
  obtain ⟨⟨hx, hb, hml, hown, hts⟩, hK, hE, hA, hr, hlk, rfl⟩ := C
  intro H locs ls hP hD hS hl
  obtain ⟨e1, e2, e3, e4, e5, e6, e7, e8, e9⟩ := hE
  exact va_tlen hx hb e6.2 hS (v := Int32.ofInt 9) rfl d (kk H locs ls hP hD hS hl)
theorem z_statld0 (C : zX V p l e R s m args below meth c D tys tw A cc Ts own nL ret Q) {x : Int} (h0 : 0 ≤ x) (h1 : x < 9) (d : decode cc pc = .ok (.iaload, 1)) (kk : V k n ws lv (vI (wayC x.toNat) :: st) (pc + 1)) : V k n ws lv (vI x :: .ref (tw 0) :: st) pc := by
  obtain ⟨⟨hx, hb, hml, hown, hts⟩, hK, hE, hA, hr, hlk, rfl⟩ := C
  intro H locs ls hP hD hS hl
  obtain ⟨e1, e2, e3, e4, e5, e6, e7, e8, e9⟩ := hE
  exact va_ti hx hb e6.2 hS (iI_in (n := 9) h0 h1 (by decide)) (v := vI (wayC x.toNat)) (by rw [iI_nat h0 (by omega)]) d (kk H locs ls hP hD hS hl)
theorem z_statlen1 (C : zX V p l e R s m args below meth c D tys tw A cc Ts own nL ret Q) (d : decode cc pc = .ok (.arraylength, 1)) (kk : V k n ws lv (vI 9 :: st) (pc + 1)) : V k n ws lv (.ref (tw 1) :: st) pc := by
  obtain ⟨⟨hx, hb, hml, hown, hts⟩, hK, hE, hA, hr, hlk, rfl⟩ := C
  intro H locs ls hP hD hS hl
  obtain ⟨e1, e2, e3, e4, e5, e6, e7, e8, e9⟩ := hE
  exact va_tlen hx hb e7.2 hS (v := Int32.ofInt 9) rfl d (kk H locs ls hP hD hS hl)
theorem z_statld1 (C : zX V p l e R s m args below meth c D tys tw A cc Ts own nL ret Q) {x : Int} (h0 : 0 ≤ x) (h1 : x < 9) (d : decode cc pc = .ok (.iaload, 1)) (kk : V k n ws lv (vI (wayB x.toNat) :: st) (pc + 1)) : V k n ws lv (vI x :: .ref (tw 1) :: st) pc := by
  obtain ⟨⟨hx, hb, hml, hown, hts⟩, hK, hE, hA, hr, hlk, rfl⟩ := C
  intro H locs ls hP hD hS hl
  obtain ⟨e1, e2, e3, e4, e5, e6, e7, e8, e9⟩ := hE
  exact va_ti hx hb e7.2 hS (iI_in (n := 9) h0 h1 (by decide)) (v := vI (wayB x.toNat)) (by rw [iI_nat h0 (by omega)]) d (kk H locs ls hP hD hS hl)
theorem z_statlen2 (C : zX V p l e R s m args below meth c D tys tw A cc Ts own nL ret Q) (d : decode cc pc = .ok (.arraylength, 1)) (kk : V k n ws lv (vI 74 :: st) (pc + 1)) : V k n ws lv (.ref (tw 2) :: st) pc := by
  obtain ⟨⟨hx, hb, hml, hown, hts⟩, hK, hE, hA, hr, hlk, rfl⟩ := C
  intro H locs ls hP hD hS hl
  obtain ⟨e1, e2, e3, e4, e5, e6, e7, e8, e9⟩ := hE
  exact va_tlen hx hb e8.2 hS (v := Int32.ofInt 74) rfl d (kk H locs ls hP hD hS hl)
theorem z_statld2 (C : zX V p l e R s m args below meth c D tys tw A cc Ts own nL ret Q) {x : Int} (h0 : 0 ≤ x) (h1 : x < 74) (d : decode cc pc = .ok (.baload, 1)) (kk : V k n ws lv (vI (lenW x.toNat) :: st) (pc + 1)) : V k n ws lv (vI x :: .ref (tw 2) :: st) pc := by
  obtain ⟨⟨hx, hb, hml, hown, hts⟩, hK, hE, hA, hr, hlk, rfl⟩ := C
  intro H locs ls hP hD hS hl
  obtain ⟨e1, e2, e3, e4, e5, e6, e7, e8, e9⟩ := hE
  exact va_tb hx hb e8.2 hS (iI_in (n := 74) h0 h1 (by decide)) (v := vI (lenW x.toNat)) (by rw [iI_nat h0 (by omega)]) d (kk H locs ls hP hD hS hl)
theorem z_statlen3 (C : zX V p l e R s m args below meth c D tys tw A cc Ts own nL ret Q) (d : decode cc pc = .ok (.arraylength, 1)) (kk : V k n ws lv (vI 74 :: st) (pc + 1)) : V k n ws lv (.ref (tw 3) :: st) pc := by
  obtain ⟨⟨hx, hb, hml, hown, hts⟩, hK, hE, hA, hr, hlk, rfl⟩ := C
  intro H locs ls hP hD hS hl
  obtain ⟨e1, e2, e3, e4, e5, e6, e7, e8, e9⟩ := hE
  exact va_tlen hx hb e9.2 hS (v := Int32.ofInt 74) rfl d (kk H locs ls hP hD hS hl)
theorem z_statld3 (C : zX V p l e R s m args below meth c D tys tw A cc Ts own nL ret Q) {x : Int} (h0 : 0 ≤ x) (h1 : x < 74) (d : decode cc pc = .ok (.baload, 1)) (kk : V k n ws lv (vI (lenD x.toNat) :: st) (pc + 1)) : V k n ws lv (vI x :: .ref (tw 3) :: st) pc := by
  obtain ⟨⟨hx, hb, hml, hown, hts⟩, hK, hE, hA, hr, hlk, rfl⟩ := C
  intro H locs ls hP hD hS hl
  obtain ⟨e1, e2, e3, e4, e5, e6, e7, e8, e9⟩ := hE
  exact va_tb hx hb e9.2 hS (iI_in (n := 74) h0 h1 (by decide)) (v := vI (lenD x.toNat)) (by rw [iI_nat h0 (by omega)]) d (kk H locs ls hP hD hS hl)
theorem z_nmJ {x : BitVec 64} (kk : ∀ y : BitVec 64, y = x → V k n ws lv (vJ y :: st) pc) : V k n ws lv (vJ x :: st) pc := kk x rfl
theorem z_nmI {x : Int} (kk : ∀ y : Int, y = x → V k n ws lv (vI y :: st) pc) : V k n ws lv (vI x :: st) pc := kk x rfl
theorem z_nmZ {x : Bool} (kk : ∀ y : Bool, y = x → V k n ws lv (vI (b2i y) :: st) pc) : V k n ws lv (vI (b2i x) :: st) pc := kk x rfl
end ZROWS
theorem z_iret {V : zV} {p : Program} {l : Launch} {e : Env} {R : Room} {s : State} {m : MethodId} {args : Array Value} {below : List Frame} {meth : Method} {c : Code} {D : va_G} {tys : List (ClassId × FieldType)} {tw : Nat → Nat} {A : Nat → Prop} {cc : ByteArray} {Ts : List Cond} {own : String} {nL : Nat} {k n mc ms : Nat} {ws : va_W} {lv : List (Nat × Value)} {pc : Nat} {S : Type} {rv : S → Option Value} {wf : S → va_W} {post : S → Prop} (C : zX V p l e R s m args below meth c D tys tw A cc Ts own nL (some .int) (MQ below (zQ D tys rv wf post A) args s mc ms A)) {x : Int} (d : decode cc pc = .ok (.ireturn, 1)) (u : S) (h1 : rv u = some (vI x)) (h2 : post u) (h3 : wf u = ws) (hk : k ≤ mc) (hn : n ≤ ms) : V k n ws lv [vI x] pc := by
  obtain ⟨⟨hx, hb, hml, hown, hts⟩, hK, hE, hA, hr, hlk, rfl⟩ := C
  intro H locs ls hP hD hS hl
  subst h3
  refine W.widen hk hn ?_
  exact W.iret hx hb hr (fun t ht hW => ⟨⟨u, by rw [h1] <;> rfl, h2, by rw [ht]; exact hP, va_K.moved hW.alike hK, hD⟩, hS.F ht⟩) hS.2.2 d hlk
theorem z_zret {V : zV} {p : Program} {l : Launch} {e : Env} {R : Room} {s : State} {m : MethodId} {args : Array Value} {below : List Frame} {meth : Method} {c : Code} {D : va_G} {tys : List (ClassId × FieldType)} {tw : Nat → Nat} {A : Nat → Prop} {cc : ByteArray} {Ts : List Cond} {own : String} {nL : Nat} {k n mc ms : Nat} {ws : va_W} {lv : List (Nat × Value)} {pc : Nat} {S : Type} {rv : S → Option Value} {wf : S → va_W} {post : S → Prop} (C : zX V p l e R s m args below meth c D tys tw A cc Ts own nL (some .boolean) (MQ below (zQ D tys rv wf post A) args s mc ms A)) {b : Bool} (d : decode cc pc = .ok (.ireturn, 1)) (u : S) (h1 : rv u = some (vI (b2i b))) (h2 : post u) (h3 : wf u = ws) (hk : k ≤ mc) (hn : n ≤ ms) : V k n ws lv [vI (b2i b)] pc := by
  obtain ⟨⟨hx, hb, hml, hown, hts⟩, hK, hE, hA, hr, hlk, rfl⟩ := C
  intro H locs ls hP hD hS hl
  subst h3
  refine W.widen hk hn ?_
  exact W.zret hx hb hr (by cases b <;> decide) (fun t ht hW => ⟨⟨u, by rw [h1] <;> rfl, h2, by rw [ht]; exact hP, va_K.moved hW.alike hK, hD⟩, hS.F ht⟩) hS.2.2 d hlk
theorem z_lret {V : zV} {p : Program} {l : Launch} {e : Env} {R : Room} {s : State} {m : MethodId} {args : Array Value} {below : List Frame} {meth : Method} {c : Code} {D : va_G} {tys : List (ClassId × FieldType)} {tw : Nat → Nat} {A : Nat → Prop} {cc : ByteArray} {Ts : List Cond} {own : String} {nL : Nat} {k n mc ms : Nat} {ws : va_W} {lv : List (Nat × Value)} {pc : Nat} {S : Type} {rv : S → Option Value} {wf : S → va_W} {post : S → Prop} (C : zX V p l e R s m args below meth c D tys tw A cc Ts own nL (some .long) (MQ below (zQ D tys rv wf post A) args s mc ms A)) {x : BitVec 64} (d : decode cc pc = .ok (.lreturn, 1)) (u : S) (h1 : rv u = some (vJ x)) (h2 : post u) (h3 : wf u = ws) (hk : k ≤ mc) (hn : n ≤ ms) : V k n ws lv [vJ x] pc := by
  obtain ⟨⟨hx, hb, hml, hown, hts⟩, hK, hE, hA, hr, hlk, rfl⟩ := C
  intro H locs ls hP hD hS hl
  subst h3
  refine W.widen hk hn ?_
  exact W.lret hx hb hr (fun t ht hW => ⟨⟨u, by rw [h1] <;> rfl, h2, by rw [ht]; exact hP, va_K.moved hW.alike hK, hD⟩, hS.F ht⟩) hS.2.2 d hlk
theorem z_vret {V : zV} {p : Program} {l : Launch} {e : Env} {R : Room} {s : State} {m : MethodId} {args : Array Value} {below : List Frame} {meth : Method} {c : Code} {D : va_G} {tys : List (ClassId × FieldType)} {tw : Nat → Nat} {A : Nat → Prop} {cc : ByteArray} {Ts : List Cond} {own : String} {nL : Nat} {k n mc ms : Nat} {ws : va_W} {lv : List (Nat × Value)} {pc : Nat} {S : Type} {rv : S → Option Value} {wf : S → va_W} {post : S → Prop} (C : zX V p l e R s m args below meth c D tys tw A cc Ts own nL (none) (MQ below (zQ D tys rv wf post A) args s mc ms A))  (d : decode cc pc = .ok (.return_, 1)) (u : S) (h1 : rv u = none) (h2 : post u) (h3 : wf u = ws) (hk : k ≤ mc) (hn : n ≤ ms) : V k n ws lv [] pc := by
  obtain ⟨⟨hx, hb, hml, hown, hts⟩, hK, hE, hA, hr, hlk, rfl⟩ := C
  intro H locs ls hP hD hS hl
  subst h3
  refine W.widen hk hn ?_
  exact W.vret hx hb hr (fun t ht hW => ⟨⟨u, by rw [h1] <;> rfl, h2, by rw [ht]; exact hP, va_K.moved hW.alike hK, hD⟩, hS.F ht⟩) hS.2.2 d hlk
theorem z_callV {V : zV} {p : Program} {l : Launch} {e : Env} {R : Room} {s : State} {m : MethodId} {args : Array Value} {below : List Frame} {meth : Method} {c : Code} {D : va_G} {tys : List (ClassId × FieldType)} {tw : Nat → Nat} {A : Nat → Prop} {cc : ByteArray} {Ts : List Cond} {own : String} {nL : Nat} {ret : Option FieldType} {Q : State → Prop} {k n : Nat} {lv : List (Nat × Value)} {st : List Value} {pc : Nat} (C : zX V p l e R s m args below meth c D tys tw A cc Ts own nL ret Q) {y : MethodName} {wsY : List Cond} {rm : Room} {W0 : va_W} {As : List Value} {mc ms : Nat} {S : Type} {rv : S → Option Value} {wf : S → va_W} {post : S → Prop} {bytes : ByteArray} {maxL nA index : Nat} {retY : Option FieldType} {a ci : Nat} {RC : String} {T : u_T} {N : Nat} {fs : List Value} (hM : zMet l y wsY rm D tys tw W0 (.ref a :: As) mc ms rv wf post) (hG : GoodIn Ts (wsV own index RC y wsY)) (kn : zKn y wsY bytes maxL retY nA) (hcls : y.cls = RC) (hR : rm.cells = mc ∧ rm.slots = ms ∧ rm.frames + 1 ≤ R.frames ∧ 8 + (maxL + 11) + rm.locals ≤ R.locals) (q0 : Nat) (he : W0[q0]? = some (a, .inr (ci, fs))) (hc : vwCl[ci]? = some (RC, T, N)) (hn : As.length = nA) (hst : (st.map fun v => v.category).sum ≤ 8) (hf : k + mc ≤ R.cells ∧ n + ms ≤ R.slots) (d : decode cc pc = .ok (.invokevirtual index, 3)) (kk : ∀ u : S, post u → V (k + mc) (n + ms) (wf u) lv ((rv u).toList ++ st) (pc + 3)) : V k n W0 lv (As.reverse ++ .ref a :: st) pc := by
  obtain ⟨⟨hx, hb, hml, hown, hts⟩, hK, hE, hA, -, -, rfl⟩ := C
  obtain ⟨⟨ws', hw⟩, k1, k2, k3⟩ := kn
  intro H locs ls hP hD hS hl
  have hf0 : ∀ q : Nat, va_A W0 H.size q → A q := by
    intro q h
    rcases h with ⟨j, w, h⟩ | h
    · exact hD.2 j _ h
    · exact hA q (Nat.le_trans hS.1 h)
  have hr := va_runV (As := As) (rest := st) (nL := nL) (cc := cc) (Ts := Ts) (own := own) (g := F0 m pc ls (As.reverse ++ .ref a :: st)) ⟨hx, hb, hml, hown, hts⟩ (hM H.size) (cwV nA hts hG hw hR.1 hR.2.1 ⟨hcls, k1, k2, k3⟩ hR.2.2) ⟨zB_blind D tys tw W0 H.size _, va_recv hK hP hc he, fun U hU hW => ⟨rfl, by rw [hU], by rw [hU]; exact hP, va_K.moved hW.alike hK, hD.weaken (fun _ _ _ _ => trivial), zE_move hW (fun q h1 h2 => by rw [hU]; exact hS.2.1 q h1 h2) hf0 hE⟩⟩ rfl hn hl.1 rfl (lv_room hst) d hf (p := p) (l := l) (e := e) (below := below) (meth := meth) (locs := locs)
  intro T hT X
  obtain ⟨v, st₀, t, T', L, h0, X', hL, e1, e2, ⟨⟨u, hv, hp, hP1, hK1, hD1⟩, hz, hk1⟩, stp⟩ := hr T hT X
  cases hv
  rw [h0] at hz hk1
  have hf := hf0
  obtain ⟨t2, a1, b1⟩ := kk u hp T'.heap (locs ++ L) ls (by rw [e1]; exact hP1) (hD1.weaken (fun _ q _ h => hf q.1 h)) ⟨Nat.le_trans hS.1 (by rw [e1]; exact hz), fun q h1 h2 => by rw [e1, hk1 q (Nat.lt_of_lt_of_le h1 hS.1) (fun z => h2 (hf q z))]; exact hS.2.1 q h1 h2, fun q hq => by
      rcases List.mem_append.mp hq with h | h
      · exact hS.2.2 q h
      · exact hf _ (hL q h)⟩ hl T' rfl X'
  exact ⟨t2, stp t2 a1, b1⟩
theorem z_callS {V : zV} {p : Program} {l : Launch} {e : Env} {R : Room} {s : State} {m : MethodId} {args : Array Value} {below : List Frame} {meth : Method} {c : Code} {D : va_G} {tys : List (ClassId × FieldType)} {tw : Nat → Nat} {A : Nat → Prop} {cc : ByteArray} {Ts : List Cond} {own : String} {nL : Nat} {ret : Option FieldType} {Q : State → Prop} {k n : Nat} {lv : List (Nat × Value)} {st : List Value} {pc : Nat} (C : zX V p l e R s m args below meth c D tys tw A cc Ts own nL ret Q) {y : MethodName} {wsY : List Cond} {rm : Room} {W0 : va_W} {As : List Value} {mc ms : Nat} {S : Type} {rv : S → Option Value} {wf : S → va_W} {post : S → Prop} {bytes : ByteArray} {maxL nA index : Nat} {retY : Option FieldType} (hM : zMet l y wsY rm D tys tw W0 As mc ms rv wf post) (hG : GoodIn Ts (va_wsS own index y wsY)) (kn : zKn y wsY bytes maxL retY nA) (hR : rm.cells = mc ∧ rm.slots = ms ∧ rm.frames + 1 ≤ R.frames ∧ 8 + (maxL + 11) + rm.locals ≤ R.locals) (hn : As.length = nA) (hst : (st.map fun v => v.category).sum ≤ 8) (hf : k + mc ≤ R.cells ∧ n + ms ≤ R.slots) (d : decode cc pc = .ok (.invokestatic index, 3)) (kk : ∀ u : S, post u → V (k + mc) (n + ms) (wf u) lv ((rv u).toList ++ st) (pc + 3)) : V k n W0 lv (As.reverse ++ st) pc := by
  obtain ⟨⟨hx, hb, hml, hown, hts⟩, hK, hE, hA, -, -, rfl⟩ := C
  obtain ⟨⟨ws', hw⟩, k1, k2, k3⟩ := kn
  intro H locs ls hP hD hS hl
  have hf0 : ∀ q : Nat, va_A W0 H.size q → A q := by
    intro q h
    rcases h with ⟨j, w, h⟩ | h
    · exact hD.2 j _ h
    · exact hA q (Nat.le_trans hS.1 h)
  have hr := va_runS (As := As) (rest := st) (nL := nL) (cc := cc) (Ts := Ts) (own := own) (g := F0 m pc ls (As.reverse ++ st)) ⟨hx, hb, hml, hown, hts⟩ (hM H.size) (va_cwS nA hts hG hw hR.1 hR.2.1 ⟨k1, k2, k3⟩ hR.2.2) ⟨zB_blind D tys tw W0 H.size _, fun U hU hW => ⟨rfl, by rw [hU], by rw [hU]; exact hP, va_K.moved hW.alike hK, hD.weaken (fun _ _ _ _ => trivial), zE_move hW (fun q h1 h2 => by rw [hU]; exact hS.2.1 q h1 h2) hf0 hE⟩⟩ rfl hn hl.1 rfl (lv_room hst) d hf (p := p) (l := l) (e := e) (below := below) (meth := meth) (locs := locs)
  intro T hT X
  obtain ⟨v, st₀, t, T', L, h0, X', hL, e1, e2, ⟨⟨u, hv, hp, hP1, hK1, hD1⟩, hz, hk1⟩, stp⟩ := hr T hT X
  cases hv
  rw [h0] at hz hk1
  have hf := hf0
  obtain ⟨t2, a1, b1⟩ := kk u hp T'.heap (locs ++ L) ls (by rw [e1]; exact hP1) (hD1.weaken (fun _ q _ h => hf q.1 h)) ⟨Nat.le_trans hS.1 (by rw [e1]; exact hz), fun q h1 h2 => by rw [e1, hk1 q (Nat.lt_of_lt_of_le h1 hS.1) (fun z => h2 (hf q z))]; exact hS.2.1 q h1 h2, fun q hq => by
      rcases List.mem_append.mp hq with h | h
      · exact hS.2.2 q h
      · exact hf _ (hL q h)⟩ hl T' rfl X'
  exact ⟨t2, stp t2 a1, b1⟩
end
section
/-! the worlds: what the cells of the class and of the reference hold, by numbers -/
def tB (d : Bool) (i : Nat) : Int := if d then lenD i else lenW i
def tC (d : Bool) (i : Nat) : Int := if d then ([15, 3, 3, 2, 2, 3, 2, 3, 2, 7, 6, 5, 4, 14, 13, 12, 11, 10, 9, 8, 7, 55, 54, 53, 52, 51, 50, 49, 48, 47, 46, 45, 44, 43, 42, 41, 40, 39, 38, 37, 36, 35, 34, 33, 32, 31, 30, 29, 28, 27, 26, 25, 24, 23, 22, 21, 20, 19, 18, 17, 16, 15, 14, 13, 12, 11, 10, 9, 8, 7, 6, 5, 4, 3] : List Int).getD i 0 else ([63, 27, 15, 14, 13, 12, 11, 10, 19, 18, 17, 16, 26, 25, 24, 23, 22, 21, 41, 40, 39, 38, 37, 36, 35, 34, 33, 32, 62, 61, 60, 59, 58, 57, 56, 55, 54, 53, 52, 51, 50, 49, 48, 47, 46, 45, 44, 43, 42, 41, 40, 39, 38, 37, 36, 35, 34, 33, 32, 31, 30, 29, 28, 27, 15, 14, 26, 25, 24, 23, 22, 21, 20, 19] : List Int).getD i 0
def tO (d : Bool) (i : Nat) : Int := if d then ([2, 3, 1, 4, 5, 6, 7, 8, 9, 10, 11, 12, 0, 13, 14, 15, 16, 17, 18, 19, 20, 21, 22, 23, 24, 25, 26, 27, 28, 29, 30, 31, 32, 33, 34, 35, 36, 37, 38, 39, 40, 41, 42, 43, 44, 45, 46, 47, 48, 49, 50, 51, 52, 53, 54, 55, 56, 57, 58, 59, 60, 61, 62, 63, 64, 65, 66, 67, 68, 69, 70, 71, 72, 73] : List Int).getD i 0 else ([2, 3, 4, 5, 6, 7, 8, 9, 10, 11, 64, 65, 1, 12, 13, 14, 15, 16, 17, 18, 19, 20, 21, 22, 23, 24, 25, 26, 27, 0, 28, 29, 30, 31, 32, 33, 34, 35, 36, 37, 38, 39, 40, 41, 42, 43, 44, 45, 46, 47, 48, 49, 50, 51, 52, 53, 54, 55, 56, 57, 58, 59, 60, 61, 62, 63, 66, 67, 68, 69, 70, 71, 72, 73] : List Int).getD i 0
def tF (d : Bool) (i : Nat) : Int := if d then ([3072, 2048, 1536, 1024, 768, 512, 384, 256, 224, 192, 160, 128, 120, 112, 104, 96, 88, 80, 72, 64, 56, 55, 54, 53, 52, 51, 50, 49, 48, 47, 46, 45, 44, 43, 42, 41, 40, 39, 38, 37, 36, 35, 34, 33, 32, 31, 30, 29, 28, 27, 26, 25, 24, 23, 22, 21, 20, 19, 18, 17, 16, 15, 14, 13, 12, 11, 10, 9, 8, 7, 6, 5, 4, 3] : List Int).getD i 0 else ([3840, 3584, 3328, 3072, 2816, 2560, 2432, 2304, 2176, 2048, 1920, 1792, 1728, 1664, 1600, 1536, 1472, 1408, 1344, 1312, 1280, 1248, 1216, 1184, 1152, 1120, 1088, 1056, 1024, 1008, 992, 976, 960, 944, 928, 912, 896, 880, 864, 848, 832, 816, 800, 784, 768, 752, 736, 720, 704, 688, 672, 656, 640, 624, 608, 592, 576, 560, 544, 528, 512, 496, 480, 464, 448, 432, 416, 400, 384, 368, 352, 336, 320, 304] : List Int).getD i 0
def zT (cy : Nat → ClassId) : List (ClassId × FieldType) := [(cy 0, .byte), (cy 1, .int), (cy 2, .long), (cy 3, .boolean)]
def wn (co : Int) : Nat := (24 * ((co + 63) / 64)).toNat
def on (co : Int) : Nat := (3 * (7 * co + 60) + 16).toNat
theorem wn_eq {co : Int} (h : 1 ≤ co) : (wn co : Int) = 24 * ((co + 63) / 64) := by unfold wn; omega
theorem on_eq {co : Int} (h : 1 ≤ co) : (on co : Int) = 3 * (7 * co + 60) + 16 := by unfold on; omega
def isRunN (n : Nat) : Bool := decide (n < 64) || (decide (n ≤ 640) && n % 64 == 0)
def slotN (n : Nat) : Nat := if n < 64 then n else 63 + n / 64
def mB (k : Nat) : Int := if isRunN (k % 704) then tB (k / 704 == 1) (slotN (k % 704)) else 0
def mC (k : Nat) : Int := if isRunN (k % 704) then tC (k / 704 == 1) (slotN (k % 704)) else 0
def CW (cy : Nat → ClassId) (a : Nat → Nat) (kd : Int) (co : Int) (mk : Bool) (al : Bool) (dz : Bool) (rd : Bool) (rw : Int) (wo : Nat → BitVec 64) (sa : Nat → Int) (sz : Int) (ps : Int) (bt : Nat → Int) (ou : Nat → Int) (bi : Int) (dm : Int) (pl : Bool) (re : Int) (cu : Bool) : va_W := [(a 0, .inr (9, [.ref (a 1), .ref (a 2), .ref (a 3), .ref (a 4), .ref (a 5), .ref (a 6), .ref (a 7), .ref (a 8)])),
  (a 1, .inr (7, [vI kd, vI (b2i mk), vI (b2i al), vI (b2i dz), vI (b2i rd)])),
  (a 2, .inr (4, [vI co, vI rw, vI ((co + 63) / 64), .ref (a 9), .ref (a 10)])),
  (a 3, .inr (8, [.ref (a 11), .ref (a 12), .ref (a 13), .ref (a 14)])),
  (a 4, .inr (8, [.ref (a 15), .ref (a 16), .ref (a 17), .ref (a 18)])),
  (a 5, .inr (2, [vI sz, vI ps, .ref (a 19)])),
  (a 6, .inr (3, [.ref (a 20), vI bi])),
  (a 7, .inr (6, [.ref (a 1), .ref (a 2), .ref (a 3), .ref (a 4), .ref (a 6)])),
  (a 8, .inr (5, [vI dm, .ref (a 1), .ref (a 2), .ref (a 3), .ref (a 4), .ref (a 5), vI (b2i pl), vI re, vI (b2i cu)])),
  (a 9, aJ (cy 2) (wn co) wo),
  (a 10, aI (cy 1) 24 sa),
  (a 11, aI (cy 1) 74 (tB false)),
  (a 12, aI (cy 1) 74 (tC false)),
  (a 13, aI (cy 1) 74 (tO false)),
  (a 14, aI (cy 1) 74 (tF false)),
  (a 15, aI (cy 1) 74 (tB true)),
  (a 16, aI (cy 1) 74 (tC true)),
  (a 17, aI (cy 1) 74 (tO true)),
  (a 18, aI (cy 1) 74 (tF true)),
  (a 19, aB (cy 0) 400 bt),
  (a 20, aB (cy 0) (on co) ou)]
def MW (cy : Nat → ClassId) (b : Nat → Nat) (kd : Int) (co : Int) (th : Int) (rw : Int) (cl : Int) (wr : Int) (po : Int) (dm : Int) (sx : Int) (aa : Int) (dk : Bool) (fi : Bool) (bb : Int) (cz : Int) (hm : Bool) (se : Nat → Bool) (da : Nat → Bool) (sa : Nat → Int) (bt : Nat → Int) (oz : Nat → Bool) : va_W := [(b 0, .inr (10, [vI th, vI kd, vI co, .ref (b 1), .ref (b 2), .ref (b 3), vI rw, .ref (b 4), .ref (b 5), vI cl, .ref (b 6), vI wr, .ref (b 7), vI po, vI dm, vI sx, vI aa, vI (b2i dk), vI (b2i fi), vI bb, vI cz, vI (b2i hm)])),
  (b 1, aI (cy 1) 1408 (mC)),
  (b 2, aI (cy 1) 1408 (mB)),
  (b 3, aZ (cy 3) 4 se),
  (b 4, aZ (cy 3) 16800 da),
  (b 5, aI (cy 1) 24 sa),
  (b 6, aI (cy 1) 400 bt),
  (b 7, aZ (cy 3) 140000 oz)]
section ZSTAT
variable {V : zV} {p : Program} {l : Launch} {e : Env} {R : Room} {s : State} {m : MethodId} {args : Array Value} {below : List Frame} {meth : Method} {c : Code} {D : va_G} {tys : List (ClassId × FieldType)} {tw : Nat → Nat} {A : Nat → Prop} {cc : ByteArray} {Ts : List Cond} {own : String} {nL : Nat} {ret : Option FieldType} {Q : State → Prop} {k n : Nat} {ws : va_W} {lv : List (Nat × Value)} {st : List Value} {pc : Nat}
theorem z_stat0X4 (C : zX V p l e R s m args below meth c D tys tw A cc Ts RX4 nL ret Q) (d : decode cc pc = .ok (.getstatic 95, 3)) (kk : V k n ws lv (.ref (tw 0) :: st) (pc + 3)) : V k n ws lv st pc := by
  obtain ⟨⟨hx, hb, hml, hown, hts⟩, hK, hE, hA, hr, hlk, rfl⟩ := C
  intro H locs ls hP hD hS hl
  obtain ⟨e1, e2, e3, e4, e5, e6, e7, e8, e9⟩ := hE
  exact va_getsN hx hb e6.1 hS hown (va_Nw.use rfl e2) (fun _ h => h) d (kk H locs ls hP hD hS hl)
theorem z_stat1X4 (C : zX V p l e R s m args below meth c D tys tw A cc Ts RX4 nL ret Q) (d : decode cc pc = .ok (.getstatic 99, 3)) (kk : V k n ws lv (.ref (tw 1) :: st) (pc + 3)) : V k n ws lv st pc := by
  obtain ⟨⟨hx, hb, hml, hown, hts⟩, hK, hE, hA, hr, hlk, rfl⟩ := C
  intro H locs ls hP hD hS hl
  obtain ⟨e1, e2, e3, e4, e5, e6, e7, e8, e9⟩ := hE
  exact va_getsN hx hb e7.1 hS hown (va_Nw.use rfl e3) (fun _ h => h) d (kk H locs ls hP hD hS hl)
theorem z_stat0X3 (C : zX V p l e R s m args below meth c D tys tw A cc Ts RX3 nL ret Q) (d : decode cc pc = .ok (.getstatic 146, 3)) (kk : V k n ws lv (.ref (tw 0) :: st) (pc + 3)) : V k n ws lv st pc := by
  obtain ⟨⟨hx, hb, hml, hown, hts⟩, hK, hE, hA, hr, hlk, rfl⟩ := C
  intro H locs ls hP hD hS hl
  obtain ⟨e1, e2, e3, e4, e5, e6, e7, e8, e9⟩ := hE
  exact va_getsN hx hb e6.1 hS hown (va_Nw.use rfl e4) (fun _ h => h) d (kk H locs ls hP hD hS hl)
theorem z_stat1X3 (C : zX V p l e R s m args below meth c D tys tw A cc Ts RX3 nL ret Q) (d : decode cc pc = .ok (.getstatic 150, 3)) (kk : V k n ws lv (.ref (tw 1) :: st) (pc + 3)) : V k n ws lv st pc := by
  obtain ⟨⟨hx, hb, hml, hown, hts⟩, hK, hE, hA, hr, hlk, rfl⟩ := C
  intro H locs ls hP hD hS hl
  obtain ⟨e1, e2, e3, e4, e5, e6, e7, e8, e9⟩ := hE
  exact va_getsN hx hb e7.1 hS hown (va_Nw.use rfl e5) (fun _ h => h) d (kk H locs ls hP hD hS hl)
end ZSTAT
end
section
/-! pure: what the answers are, by numbers and rows of colours -/
def zer (I : Int → Bool) (T p : Int) : Int := if p < T then (if I p then 0 else 1 + zer I T (p + 1)) else 0
termination_by (T - p).toNat
decreasing_by omega
theorem zer_lt {I : Int → Bool} {T p : Int} (h : p < T) (hI : I p = true) : zer I T p = 0 := by rw [zer, if_pos h, if_pos hI]
theorem zer_st {I : Int → Bool} {T p : Int} (h : p < T) (hI : I p = false) : zer I T p = 1 + zer I T (p + 1) := by rw [zer, if_pos h, hI]; rfl
theorem zer_ge {I : Int → Bool} {T p : Int} (h : T ≤ p) : zer I T p = 0 := by rw [zer, if_neg (by omega)]
theorem zer_rg (I : Int → Bool) (T p : Int) (h : p ≤ T) : 0 ≤ zer I T p ∧ zer I T p ≤ T - p := by
  rcases Int.lt_or_le p T with h1 | h1
  · cases hI : I p with
    | true => rw [zer_lt h1 hI]; omega
    | false => rw [zer_st h1 hI]; have := zer_rg I T (p + 1) (by omega); omega
  · rw [zer_ge h1]; omega
termination_by (T - p).toNat
decreasing_by omega
def isMk (I : Int → Bool) (T p : Int) : Bool := decide (11 ≤ zer I T p ∧ zer I T p < T - p)
def fmk (I : Int → Bool) (T i z : Int) : Int := if i < T then (if I i then (if 11 ≤ z then i + 1 else fmk I T (i + 1) 0) else fmk I T (i + 1) (z + 1)) else -1
termination_by (T - i).toNat
decreasing_by all_goals omega
theorem fmk_hit {I : Int → Bool} {T i z : Int} (h : i < T) (hI : I i = true) (hz : 11 ≤ z) : fmk I T i z = i + 1 := by rw [fmk, if_pos h, if_pos hI, if_pos hz]
theorem fmk_one {I : Int → Bool} {T i z : Int} (h : i < T) (hI : I i = true) (hz : ¬ 11 ≤ z) : fmk I T i z = fmk I T (i + 1) 0 := by rw [fmk, if_pos h, if_pos hI, if_neg hz]
theorem fmk_zero {I : Int → Bool} {T i z : Int} (h : i < T) (hI : I i = false) : fmk I T i z = fmk I T (i + 1) (z + 1) := by rw [fmk, if_pos h, hI]; rfl
theorem fmk_end {I : Int → Bool} {T i z : Int} (h : T ≤ i) : fmk I T i z = -1 := by rw [fmk, if_neg (by omega)]
def nxt (f : Int → Bool) (N x : Int) (d : Bool) : Int := if x < N then (if f x = d then x else nxt f N (x + 1) d) else N
termination_by (N - x).toNat
decreasing_by omega
theorem nxt_at {f : Int → Bool} {N x : Int} {d : Bool} (h : x < N) (hf : f x = d) : nxt f N x d = x := by rw [nxt, if_pos h, if_pos hf]
theorem nxt_ne {f : Int → Bool} {N x : Int} {d : Bool} (h : x < N) (hf : ¬ f x = d) : nxt f N x d = nxt f N (x + 1) d := by rw [nxt, if_pos h, if_neg hf]
theorem nxt_ge {f : Int → Bool} {N x : Int} {d : Bool} (h : N ≤ x) : nxt f N x d = N := by rw [nxt, if_neg (by omega)]
theorem nxt_rg (f : Int → Bool) (N x : Int) (d : Bool) : nxt f N x d ≤ N ∧ (x ≤ N → x ≤ nxt f N x d) := by
  rcases Int.lt_or_le x N with h | h
  · by_cases hf : f x = d
    · rw [nxt_at h hf]; omega
    · rw [nxt_ne h hf]
      have := nxt_rg f N (x + 1) d
      omega
  · rw [nxt_ge h]; omega
termination_by (N - x).toNat
decreasing_by omega
theorem nxt_skip {f : Int → Bool} {N x : Int} {d : Bool} (n : Nat) (h : ∀ j, x ≤ j → j < x + (n : Int) → j < N → ¬ f j = d) : nxt f N x d = nxt f N (x + (n : Int)) d := by
  induction n with
  | zero => simp
  | succ n ih =>
    rw [ih (fun j h1 h2 h3 => h j h1 (by omega) h3)]
    rcases Int.lt_or_le (x + (n : Int)) N with h4 | h4
    · rw [nxt_ne h4 (h _ (by omega) (by omega) h4), show x + (n : Int) + 1 = x + ((n + 1 : Nat) : Int) by omega]
    · rw [nxt_ge h4, nxt_ge (by omega)]
end
section
theorem dX5_init_0 : decode cX5_init 0 = .ok (.aload_n 0, 1) := by decide +kernel
theorem dX5_init_1 : decode cX5_init 1 = .ok (.invokespecial 3, 3) := by decide +kernel
theorem dX5_init_4 : decode cX5_init 4 = .ok (.aload_n 0, 1) := by decide +kernel
theorem dX5_init_5 : decode cX5_init 5 = .ok (.iload_n 1, 1) := by decide +kernel
theorem dX5_init_6 : decode cX5_init 6 = .ok (.putfield 9, 3) := by decide +kernel
theorem dX5_init_9 : decode cX5_init 9 = .ok (.return_, 1) := by decide +kernel
theorem dX5_hasMarks_0 : decode cX5_hasMarks 0 = .ok (.aload_n 0, 1) := by decide +kernel
theorem dX5_hasMarks_1 : decode cX5_hasMarks 1 = .ok (.getfield 9, 3) := by decide +kernel
theorem dX5_hasMarks_4 : decode cX5_hasMarks 4 = .ok (.iconst 1, 1) := by decide +kernel
theorem dX5_hasMarks_5 : decode cX5_hasMarks 5 = .ok (.if_icmp .eq 17, 3) := by decide +kernel
theorem dX5_hasMarks_8 : decode cX5_hasMarks 8 = .ok (.aload_n 0, 1) := by decide +kernel
theorem dX5_hasMarks_9 : decode cX5_hasMarks 9 = .ok (.getfield 9, 3) := by decide +kernel
theorem dX5_hasMarks_12 : decode cX5_hasMarks 12 = .ok (.ifCond .ne 14, 3) := by decide +kernel
theorem dX5_hasMarks_15 : decode cX5_hasMarks 15 = .ok (.aload_n 0, 1) := by decide +kernel
theorem dX5_hasMarks_16 : decode cX5_hasMarks 16 = .ok (.getfield 15, 3) := by decide +kernel
theorem dX5_hasMarks_19 : decode cX5_hasMarks 19 = .ok (.ifCond .eq 7, 3) := by decide +kernel
theorem dX5_hasMarks_22 : decode cX5_hasMarks 22 = .ok (.iconst 1, 1) := by decide +kernel
theorem dX5_hasMarks_23 : decode cX5_hasMarks 23 = .ok (.goto 4, 3) := by decide +kernel
theorem dX5_hasMarks_26 : decode cX5_hasMarks 26 = .ok (.iconst 0, 1) := by decide +kernel
theorem dX5_hasMarks_27 : decode cX5_hasMarks 27 = .ok (.ireturn, 1) := by decide +kernel
theorem dX6_init_0 : decode cX6_init 0 = .ok (.aload_n 0, 1) := by decide +kernel
theorem dX6_init_1 : decode cX6_init 1 = .ok (.invokespecial 3, 3) := by decide +kernel
theorem dX6_init_4 : decode cX6_init 4 = .ok (.aload_n 0, 1) := by decide +kernel
theorem dX6_init_5 : decode cX6_init 5 = .ok (.bipush 74, 2) := by decide +kernel
theorem dX6_init_7 : decode cX6_init 7 = .ok (.newarray .int, 2) := by decide +kernel
theorem dX6_init_9 : decode cX6_init 9 = .ok (.putfield 11, 3) := by decide +kernel
theorem dX6_init_12 : decode cX6_init 12 = .ok (.aload_n 0, 1) := by decide +kernel
theorem dX6_init_13 : decode cX6_init 13 = .ok (.bipush 74, 2) := by decide +kernel
theorem dX6_init_15 : decode cX6_init 15 = .ok (.newarray .int, 2) := by decide +kernel
theorem dX6_init_17 : decode cX6_init 17 = .ok (.putfield 15, 3) := by decide +kernel
theorem dX6_init_20 : decode cX6_init 20 = .ok (.aload_n 0, 1) := by decide +kernel
theorem dX6_init_21 : decode cX6_init 21 = .ok (.bipush 74, 2) := by decide +kernel
theorem dX6_init_23 : decode cX6_init 23 = .ok (.newarray .int, 2) := by decide +kernel
theorem dX6_init_25 : decode cX6_init 25 = .ok (.putfield 18, 3) := by decide +kernel
theorem dX6_init_28 : decode cX6_init 28 = .ok (.aload_n 0, 1) := by decide +kernel
theorem dX6_init_29 : decode cX6_init 29 = .ok (.bipush 74, 2) := by decide +kernel
theorem dX6_init_31 : decode cX6_init 31 = .ok (.newarray .int, 2) := by decide +kernel
theorem dX6_init_33 : decode cX6_init 33 = .ok (.putfield 21, 3) := by decide +kernel
theorem dX6_init_36 : decode cX6_init 36 = .ok (.sipush 4096, 3) := by decide +kernel
theorem dX6_init_39 : decode cX6_init 39 = .ok (.istore_n 2, 1) := by decide +kernel
theorem dX6_init_40 : decode cX6_init 40 = .ok (.iconst 0, 1) := by decide +kernel
theorem dX6_init_41 : decode cX6_init 41 = .ok (.istore_n 3, 1) := by decide +kernel
theorem dX6_init_42 : decode cX6_init 42 = .ok (.iconst 1, 1) := by decide +kernel
theorem dX6_init_43 : decode cX6_init 43 = .ok (.istore 4, 2) := by decide +kernel
theorem dX6_init_45 : decode cX6_init 45 = .ok (.iload 4, 2) := by decide +kernel
theorem dX6_init_47 : decode cX6_init 47 = .ok (.bipush 12, 2) := by decide +kernel
theorem dX6_init_49 : decode cX6_init 49 = .ok (.if_icmp .gt 99, 3) := by decide +kernel
theorem dX6_init_52 : decode cX6_init 52 = .ok (.bipush 12, 2) := by decide +kernel
theorem dX6_init_54 : decode cX6_init 54 = .ok (.iload 4, 2) := by decide +kernel
theorem dX6_init_56 : decode cX6_init 56 = .ok (.isub, 1) := by decide +kernel
theorem dX6_init_57 : decode cX6_init 57 = .ok (.istore 5, 2) := by decide +kernel
theorem dX6_init_59 : decode cX6_init 59 = .ok (.iconst 0, 1) := by decide +kernel
theorem dX6_init_60 : decode cX6_init 60 = .ok (.istore 6, 2) := by decide +kernel
theorem dX6_init_62 : decode cX6_init 62 = .ok (.iload 6, 2) := by decide +kernel
theorem dX6_init_64 : decode cX6_init 64 = .ok (.bipush 74, 2) := by decide +kernel
theorem dX6_init_66 : decode cX6_init 66 = .ok (.if_icmp .ge 76, 3) := by decide +kernel
theorem dX6_init_69 : decode cX6_init 69 = .ok (.iload 6, 2) := by decide +kernel
theorem dX6_init_71 : decode cX6_init 71 = .ok (.aload_n 1, 1) := by decide +kernel
theorem dX6_init_72 : decode cX6_init 72 = .ok (.arraylength, 1) := by decide +kernel
theorem dX6_init_73 : decode cX6_init 73 = .ok (.if_icmp .ge 69, 3) := by decide +kernel
theorem dX6_init_76 : decode cX6_init 76 = .ok (.aload_n 1, 1) := by decide +kernel
theorem dX6_init_77 : decode cX6_init 77 = .ok (.iload 6, 2) := by decide +kernel
theorem dX6_init_79 : decode cX6_init 79 = .ok (.baload, 1) := by decide +kernel
theorem dX6_init_80 : decode cX6_init 80 = .ok (.iload 4, 2) := by decide +kernel
theorem dX6_init_82 : decode cX6_init 82 = .ok (.if_icmp .ne 54, 3) := by decide +kernel
theorem dX6_init_85 : decode cX6_init 85 = .ok (.iload_n 3, 1) := by decide +kernel
theorem dX6_init_86 : decode cX6_init 86 = .ok (.bipush 74, 2) := by decide +kernel
theorem dX6_init_88 : decode cX6_init 88 = .ok (.if_icmp .ge 48, 3) := by decide +kernel
theorem dX6_init_91 : decode cX6_init 91 = .ok (.iload_n 2, 1) := by decide +kernel
theorem dX6_init_92 : decode cX6_init 92 = .ok (.iconst 1, 1) := by decide +kernel
theorem dX6_init_93 : decode cX6_init 93 = .ok (.iload 5, 2) := by decide +kernel
theorem dX6_init_95 : decode cX6_init 95 = .ok (.ishl, 1) := by decide +kernel
theorem dX6_init_96 : decode cX6_init 96 = .ok (.isub, 1) := by decide +kernel
theorem dX6_init_97 : decode cX6_init 97 = .ok (.istore_n 2, 1) := by decide +kernel
theorem dX6_init_98 : decode cX6_init 98 = .ok (.aload_n 0, 1) := by decide +kernel
theorem dX6_init_99 : decode cX6_init 99 = .ok (.getfield 11, 3) := by decide +kernel
theorem dX6_init_102 : decode cX6_init 102 = .ok (.iload 6, 2) := by decide +kernel
theorem dX6_init_104 : decode cX6_init 104 = .ok (.iload 4, 2) := by decide +kernel
theorem dX6_init_106 : decode cX6_init 106 = .ok (.iastore, 1) := by decide +kernel
theorem dX6_init_107 : decode cX6_init 107 = .ok (.aload_n 0, 1) := by decide +kernel
theorem dX6_init_108 : decode cX6_init 108 = .ok (.getfield 15, 3) := by decide +kernel
theorem dX6_init_111 : decode cX6_init 111 = .ok (.iload 6, 2) := by decide +kernel
theorem dX6_init_113 : decode cX6_init 113 = .ok (.iload_n 2, 1) := by decide +kernel
theorem dX6_init_114 : decode cX6_init 114 = .ok (.iload 5, 2) := by decide +kernel
theorem dX6_init_116 : decode cX6_init 116 = .ok (.ishr, 1) := by decide +kernel
theorem dX6_init_117 : decode cX6_init 117 = .ok (.iastore, 1) := by decide +kernel
theorem dX6_init_118 : decode cX6_init 118 = .ok (.aload_n 0, 1) := by decide +kernel
theorem dX6_init_119 : decode cX6_init 119 = .ok (.getfield 18, 3) := by decide +kernel
theorem dX6_init_122 : decode cX6_init 122 = .ok (.iload_n 3, 1) := by decide +kernel
theorem dX6_init_123 : decode cX6_init 123 = .ok (.iload 6, 2) := by decide +kernel
theorem dX6_init_125 : decode cX6_init 125 = .ok (.iastore, 1) := by decide +kernel
theorem dX6_init_126 : decode cX6_init 126 = .ok (.aload_n 0, 1) := by decide +kernel
theorem dX6_init_127 : decode cX6_init 127 = .ok (.getfield 21, 3) := by decide +kernel
theorem dX6_init_130 : decode cX6_init 130 = .ok (.iload_n 3, 1) := by decide +kernel
theorem dX6_init_131 : decode cX6_init 131 = .ok (.iload_n 2, 1) := by decide +kernel
theorem dX6_init_132 : decode cX6_init 132 = .ok (.iastore, 1) := by decide +kernel
theorem dX6_init_133 : decode cX6_init 133 = .ok (.iinc 3 1, 3) := by decide +kernel
theorem dX6_init_136 : decode cX6_init 136 = .ok (.iinc 6 1, 3) := by decide +kernel
theorem dX6_init_139 : decode cX6_init 139 = .ok (.goto (-77), 3) := by decide +kernel
theorem dX6_init_142 : decode cX6_init 142 = .ok (.iinc 4 1, 3) := by decide +kernel
theorem dX6_init_145 : decode cX6_init 145 = .ok (.goto (-100), 3) := by decide +kernel
theorem dX6_init_148 : decode cX6_init 148 = .ok (.return_, 1) := by decide +kernel
set_option maxRecDepth 20000 in
theorem ggX6_slotOf_X6_slotOfMake : GoodIn wsX6_slotOf wsX6_slotOfMake := goodIn_r _ [4] (by decide +kernel) (by decide +kernel)
set_option maxRecDepth 20000 in
theorem gX6_slotOf_X6_slotOfMake : GoodIn wsX6_slotOf (va_wsS RX6 24 yX6_slotOfMake wsX6_slotOfMake) := goodIn_app (goodIn_of _ (by decide +kernel)) ggX6_slotOf_X6_slotOfMake
theorem dX6_slotOf_0 : decode cX6_slotOf 0 = .ok (.iload_n 0, 1) := by decide +kernel
theorem dX6_slotOf_1 : decode cX6_slotOf 1 = .ok (.ifCond .lt 10, 3) := by decide +kernel
theorem dX6_slotOf_4 : decode cX6_slotOf 4 = .ok (.iload_n 0, 1) := by decide +kernel
theorem dX6_slotOf_5 : decode cX6_slotOf 5 = .ok (.sipush 640, 3) := by decide +kernel
theorem dX6_slotOf_8 : decode cX6_slotOf 8 = .ok (.if_icmp .le 6, 3) := by decide +kernel
theorem dX6_slotOf_11 : decode cX6_slotOf 11 = .ok (.bipush (-2), 2) := by decide +kernel
theorem dX6_slotOf_13 : decode cX6_slotOf 13 = .ok (.ireturn, 1) := by decide +kernel
theorem dX6_slotOf_14 : decode cX6_slotOf 14 = .ok (.iload_n 0, 1) := by decide +kernel
theorem dX6_slotOf_15 : decode cX6_slotOf 15 = .ok (.bipush 64, 2) := by decide +kernel
theorem dX6_slotOf_17 : decode cX6_slotOf 17 = .ok (.if_icmp .ge 5, 3) := by decide +kernel
theorem dX6_slotOf_20 : decode cX6_slotOf 20 = .ok (.iload_n 0, 1) := by decide +kernel
theorem dX6_slotOf_21 : decode cX6_slotOf 21 = .ok (.ireturn, 1) := by decide +kernel
theorem dX6_slotOf_22 : decode cX6_slotOf 22 = .ok (.iload_n 0, 1) := by decide +kernel
theorem dX6_slotOf_23 : decode cX6_slotOf 23 = .ok (.bipush 64, 2) := by decide +kernel
theorem dX6_slotOf_25 : decode cX6_slotOf 25 = .ok (.irem, 1) := by decide +kernel
theorem dX6_slotOf_26 : decode cX6_slotOf 26 = .ok (.ifCond .ne 10, 3) := by decide +kernel
theorem dX6_slotOf_29 : decode cX6_slotOf 29 = .ok (.iload_n 0, 1) := by decide +kernel
theorem dX6_slotOf_30 : decode cX6_slotOf 30 = .ok (.invokestatic 24, 3) := by decide +kernel
theorem dX6_slotOf_33 : decode cX6_slotOf 33 = .ok (.goto 5, 3) := by decide +kernel
theorem dX6_slotOf_36 : decode cX6_slotOf 36 = .ok (.bipush (-2), 2) := by decide +kernel
theorem dX6_slotOf_38 : decode cX6_slotOf 38 = .ok (.ireturn, 1) := by decide +kernel
theorem dX6_slotOfMake_0 : decode cX6_slotOfMake 0 = .ok (.bipush 63, 2) := by decide +kernel
theorem dX6_slotOfMake_2 : decode cX6_slotOfMake 2 = .ok (.iload_n 0, 1) := by decide +kernel
theorem dX6_slotOfMake_3 : decode cX6_slotOfMake 3 = .ok (.bipush 64, 2) := by decide +kernel
theorem dX6_slotOfMake_5 : decode cX6_slotOfMake 5 = .ok (.idiv, 1) := by decide +kernel
theorem dX6_slotOfMake_6 : decode cX6_slotOfMake 6 = .ok (.iadd, 1) := by decide +kernel
theorem dX6_slotOfMake_7 : decode cX6_slotOfMake 7 = .ok (.ireturn, 1) := by decide +kernel
theorem dX6_runOf_0 : decode cX6_runOf 0 = .ok (.iload_n 0, 1) := by decide +kernel
theorem dX6_runOf_1 : decode cX6_runOf 1 = .ok (.bipush 64, 2) := by decide +kernel
theorem dX6_runOf_3 : decode cX6_runOf 3 = .ok (.if_icmp .ge 7, 3) := by decide +kernel
theorem dX6_runOf_6 : decode cX6_runOf 6 = .ok (.iload_n 0, 1) := by decide +kernel
theorem dX6_runOf_7 : decode cX6_runOf 7 = .ok (.goto 12, 3) := by decide +kernel
theorem dX6_runOf_10 : decode cX6_runOf 10 = .ok (.iload_n 0, 1) := by decide +kernel
theorem dX6_runOf_11 : decode cX6_runOf 11 = .ok (.bipush 64, 2) := by decide +kernel
theorem dX6_runOf_13 : decode cX6_runOf 13 = .ok (.isub, 1) := by decide +kernel
theorem dX6_runOf_14 : decode cX6_runOf 14 = .ok (.iconst 1, 1) := by decide +kernel
theorem dX6_runOf_15 : decode cX6_runOf 15 = .ok (.iadd, 1) := by decide +kernel
theorem dX6_runOf_16 : decode cX6_runOf 16 = .ok (.bipush 64, 2) := by decide +kernel
theorem dX6_runOf_18 : decode cX6_runOf 18 = .ok (.imul, 1) := by decide +kernel
theorem dX6_runOf_19 : decode cX6_runOf 19 = .ok (.ireturn, 1) := by decide +kernel
theorem dX6_bitsOf_0 : decode cX6_bitsOf 0 = .ok (.iload_n 1, 1) := by decide +kernel
theorem dX6_bitsOf_1 : decode cX6_bitsOf 1 = .ok (.ifCond .lt 18, 3) := by decide +kernel
theorem dX6_bitsOf_4 : decode cX6_bitsOf 4 = .ok (.iload_n 1, 1) := by decide +kernel
theorem dX6_bitsOf_5 : decode cX6_bitsOf 5 = .ok (.bipush 74, 2) := by decide +kernel
theorem dX6_bitsOf_7 : decode cX6_bitsOf 7 = .ok (.if_icmp .ge 12, 3) := by decide +kernel
theorem dX6_bitsOf_10 : decode cX6_bitsOf 10 = .ok (.aload_n 0, 1) := by decide +kernel
theorem dX6_bitsOf_11 : decode cX6_bitsOf 11 = .ok (.getfield 11, 3) := by decide +kernel
theorem dX6_bitsOf_14 : decode cX6_bitsOf 14 = .ok (.iload_n 1, 1) := by decide +kernel
theorem dX6_bitsOf_15 : decode cX6_bitsOf 15 = .ok (.iaload, 1) := by decide +kernel
theorem dX6_bitsOf_16 : decode cX6_bitsOf 16 = .ok (.goto 4, 3) := by decide +kernel
theorem dX6_bitsOf_19 : decode cX6_bitsOf 19 = .ok (.iconst 0, 1) := by decide +kernel
theorem dX6_bitsOf_20 : decode cX6_bitsOf 20 = .ok (.ireturn, 1) := by decide +kernel
theorem dX6_codeOf_0 : decode cX6_codeOf 0 = .ok (.iload_n 1, 1) := by decide +kernel
theorem dX6_codeOf_1 : decode cX6_codeOf 1 = .ok (.ifCond .lt 18, 3) := by decide +kernel
theorem dX6_codeOf_4 : decode cX6_codeOf 4 = .ok (.iload_n 1, 1) := by decide +kernel
theorem dX6_codeOf_5 : decode cX6_codeOf 5 = .ok (.bipush 74, 2) := by decide +kernel
theorem dX6_codeOf_7 : decode cX6_codeOf 7 = .ok (.if_icmp .ge 12, 3) := by decide +kernel
theorem dX6_codeOf_10 : decode cX6_codeOf 10 = .ok (.aload_n 0, 1) := by decide +kernel
theorem dX6_codeOf_11 : decode cX6_codeOf 11 = .ok (.getfield 15, 3) := by decide +kernel
theorem dX6_codeOf_14 : decode cX6_codeOf 14 = .ok (.iload_n 1, 1) := by decide +kernel
theorem dX6_codeOf_15 : decode cX6_codeOf 15 = .ok (.iaload, 1) := by decide +kernel
theorem dX6_codeOf_16 : decode cX6_codeOf 16 = .ok (.goto 4, 3) := by decide +kernel
theorem dX6_codeOf_19 : decode cX6_codeOf 19 = .ok (.iconst 0, 1) := by decide +kernel
theorem dX6_codeOf_20 : decode cX6_codeOf 20 = .ok (.ireturn, 1) := by decide +kernel
theorem dX6_slotBeginning_0 : decode cX6_slotBeginning 0 = .ok (.iconst 0, 1) := by decide +kernel
theorem dX6_slotBeginning_1 : decode cX6_slotBeginning 1 = .ok (.istore_n 2, 1) := by decide +kernel
theorem dX6_slotBeginning_2 : decode cX6_slotBeginning 2 = .ok (.iload_n 2, 1) := by decide +kernel
theorem dX6_slotBeginning_3 : decode cX6_slotBeginning 3 = .ok (.bipush 74, 2) := by decide +kernel
theorem dX6_slotBeginning_5 : decode cX6_slotBeginning 5 = .ok (.if_icmp .ge 26, 3) := by decide +kernel
theorem dX6_slotBeginning_8 : decode cX6_slotBeginning 8 = .ok (.aload_n 0, 1) := by decide +kernel
theorem dX6_slotBeginning_9 : decode cX6_slotBeginning 9 = .ok (.getfield 21, 3) := by decide +kernel
theorem dX6_slotBeginning_12 : decode cX6_slotBeginning 12 = .ok (.iload_n 2, 1) := by decide +kernel
theorem dX6_slotBeginning_13 : decode cX6_slotBeginning 13 = .ok (.iaload, 1) := by decide +kernel
theorem dX6_slotBeginning_14 : decode cX6_slotBeginning 14 = .ok (.iload_n 1, 1) := by decide +kernel
theorem dX6_slotBeginning_15 : decode cX6_slotBeginning 15 = .ok (.if_icmp .gt 10, 3) := by decide +kernel
theorem dX6_slotBeginning_18 : decode cX6_slotBeginning 18 = .ok (.aload_n 0, 1) := by decide +kernel
theorem dX6_slotBeginning_19 : decode cX6_slotBeginning 19 = .ok (.getfield 18, 3) := by decide +kernel
theorem dX6_slotBeginning_22 : decode cX6_slotBeginning 22 = .ok (.iload_n 2, 1) := by decide +kernel
theorem dX6_slotBeginning_23 : decode cX6_slotBeginning 23 = .ok (.iaload, 1) := by decide +kernel
theorem dX6_slotBeginning_24 : decode cX6_slotBeginning 24 = .ok (.ireturn, 1) := by decide +kernel
theorem dX6_slotBeginning_25 : decode cX6_slotBeginning 25 = .ok (.iinc 2 1, 3) := by decide +kernel
theorem dX6_slotBeginning_28 : decode cX6_slotBeginning 28 = .ok (.goto (-26), 3) := by decide +kernel
theorem dX6_slotBeginning_31 : decode cX6_slotBeginning 31 = .ok (.bipush (-2), 2) := by decide +kernel
theorem dX6_slotBeginning_33 : decode cX6_slotBeginning 33 = .ok (.ireturn, 1) := by decide +kernel
theorem dX0_init_0 : decode cX0_init 0 = .ok (.aload_n 0, 1) := by decide +kernel
theorem dX0_init_1 : decode cX0_init 1 = .ok (.invokespecial 3, 3) := by decide +kernel
theorem dX0_init_4 : decode cX0_init 4 = .ok (.aload_n 0, 1) := by decide +kernel
theorem dX0_init_5 : decode cX0_init 5 = .ok (.sipush 400, 3) := by decide +kernel
theorem dX0_init_8 : decode cX0_init 8 = .ok (.newarray .byte, 2) := by decide +kernel
theorem dX0_init_10 : decode cX0_init 10 = .ok (.putfield 9, 3) := by decide +kernel
theorem dX0_init_13 : decode cX0_init 13 = .ok (.return_, 1) := by decide +kernel
theorem dX0_empty_0 : decode cX0_empty 0 = .ok (.aload_n 0, 1) := by decide +kernel
theorem dX0_empty_1 : decode cX0_empty 1 = .ok (.iconst 0, 1) := by decide +kernel
theorem dX0_empty_2 : decode cX0_empty 2 = .ok (.putfield 15, 3) := by decide +kernel
theorem dX0_empty_5 : decode cX0_empty 5 = .ok (.return_, 1) := by decide +kernel
theorem dX0_append_0 : decode cX0_append 0 = .ok (.aload_n 0, 1) := by decide +kernel
theorem dX0_append_1 : decode cX0_append 1 = .ok (.getfield 15, 3) := by decide +kernel
theorem dX0_append_4 : decode cX0_append 4 = .ok (.ifCond .lt 36, 3) := by decide +kernel
theorem dX0_append_7 : decode cX0_append 7 = .ok (.aload_n 0, 1) := by decide +kernel
theorem dX0_append_8 : decode cX0_append 8 = .ok (.getfield 15, 3) := by decide +kernel
theorem dX0_append_11 : decode cX0_append 11 = .ok (.aload_n 0, 1) := by decide +kernel
theorem dX0_append_12 : decode cX0_append 12 = .ok (.getfield 9, 3) := by decide +kernel
theorem dX0_append_15 : decode cX0_append 15 = .ok (.arraylength, 1) := by decide +kernel
theorem dX0_append_16 : decode cX0_append 16 = .ok (.if_icmp .ge 24, 3) := by decide +kernel
theorem dX0_append_19 : decode cX0_append 19 = .ok (.aload_n 0, 1) := by decide +kernel
theorem dX0_append_20 : decode cX0_append 20 = .ok (.getfield 9, 3) := by decide +kernel
theorem dX0_append_23 : decode cX0_append 23 = .ok (.aload_n 0, 1) := by decide +kernel
theorem dX0_append_24 : decode cX0_append 24 = .ok (.getfield 15, 3) := by decide +kernel
theorem dX0_append_27 : decode cX0_append 27 = .ok (.iload_n 1, 1) := by decide +kernel
theorem dX0_append_28 : decode cX0_append 28 = .ok (.i2b, 1) := by decide +kernel
theorem dX0_append_29 : decode cX0_append 29 = .ok (.bastore, 1) := by decide +kernel
theorem dX0_append_30 : decode cX0_append 30 = .ok (.aload_n 0, 1) := by decide +kernel
theorem dX0_append_31 : decode cX0_append 31 = .ok (.dup, 1) := by decide +kernel
theorem dX0_append_32 : decode cX0_append 32 = .ok (.getfield 15, 3) := by decide +kernel
theorem dX0_append_35 : decode cX0_append 35 = .ok (.iconst 1, 1) := by decide +kernel
theorem dX0_append_36 : decode cX0_append 36 = .ok (.iadd, 1) := by decide +kernel
theorem dX0_append_37 : decode cX0_append 37 = .ok (.putfield 15, 3) := by decide +kernel
theorem dX0_append_40 : decode cX0_append 40 = .ok (.return_, 1) := by decide +kernel
theorem dX0_restart_0 : decode cX0_restart 0 = .ok (.aload_n 0, 1) := by decide +kernel
theorem dX0_restart_1 : decode cX0_restart 1 = .ok (.iconst 0, 1) := by decide +kernel
theorem dX0_restart_2 : decode cX0_restart 2 = .ok (.putfield 19, 3) := by decide +kernel
theorem dX0_restart_5 : decode cX0_restart 5 = .ok (.return_, 1) := by decide +kernel
theorem dX0_left_0 : decode cX0_left 0 = .ok (.bipush 8, 2) := by decide +kernel
theorem dX0_left_2 : decode cX0_left 2 = .ok (.aload_n 0, 1) := by decide +kernel
theorem dX0_left_3 : decode cX0_left 3 = .ok (.getfield 15, 3) := by decide +kernel
theorem dX0_left_6 : decode cX0_left 6 = .ok (.imul, 1) := by decide +kernel
theorem dX0_left_7 : decode cX0_left 7 = .ok (.aload_n 0, 1) := by decide +kernel
theorem dX0_left_8 : decode cX0_left 8 = .ok (.getfield 19, 3) := by decide +kernel
theorem dX0_left_11 : decode cX0_left 11 = .ok (.isub, 1) := by decide +kernel
theorem dX0_left_12 : decode cX0_left 12 = .ok (.ireturn, 1) := by decide +kernel
set_option maxRecDepth 20000 in
theorem ggX0_pass_X0_left : GoodIn wsX0_pass wsX0_left := goodIn_r _ [10, 11, 1, 12, 13, 14] (by decide +kernel) (by decide +kernel)
set_option maxRecDepth 20000 in
theorem gX0_pass_X0_left : GoodIn wsX0_pass (wsV RX0 22 RX0 yX0_left wsX0_left) := goodIn_app (goodIn_of _ (by decide +kernel)) ggX0_pass_X0_left
theorem dX0_pass_0 : decode cX0_pass 0 = .ok (.aload_n 0, 1) := by decide +kernel
theorem dX0_pass_1 : decode cX0_pass 1 = .ok (.dup, 1) := by decide +kernel
theorem dX0_pass_2 : decode cX0_pass 2 = .ok (.getfield 19, 3) := by decide +kernel
theorem dX0_pass_5 : decode cX0_pass 5 = .ok (.iload_n 1, 1) := by decide +kernel
theorem dX0_pass_6 : decode cX0_pass 6 = .ok (.aload_n 0, 1) := by decide +kernel
theorem dX0_pass_7 : decode cX0_pass 7 = .ok (.invokevirtual 22, 3) := by decide +kernel
theorem dX0_pass_10 : decode cX0_pass 10 = .ok (.invokestatic 26, 3) := by decide +kernel
theorem dX0_pass_13 : decode cX0_pass 13 = .ok (.iadd, 1) := by decide +kernel
theorem dX0_pass_14 : decode cX0_pass 14 = .ok (.putfield 19, 3) := by decide +kernel
theorem dX0_pass_17 : decode cX0_pass 17 = .ok (.return_, 1) := by decide +kernel
set_option maxRecDepth 20000 in
theorem ggX0_passToByte_X0_pass : GoodIn wsX0_passToByte wsX0_pass := goodIn_r _ [6, 1, 7, 8, 9, 10, 11, 12, 13, 5, 14, 15, 16, 17, 18] (by decide +kernel) (by decide +kernel)
set_option maxRecDepth 20000 in
theorem gX0_passToByte_X0_pass : GoodIn wsX0_passToByte (wsV RX0 32 RX0 yX0_pass wsX0_pass) := goodIn_app (goodIn_of _ (by decide +kernel)) ggX0_passToByte_X0_pass
theorem dX0_passToByte_0 : decode cX0_passToByte 0 = .ok (.aload_n 0, 1) := by decide +kernel
theorem dX0_passToByte_1 : decode cX0_passToByte 1 = .ok (.aload_n 0, 1) := by decide +kernel
theorem dX0_passToByte_2 : decode cX0_passToByte 2 = .ok (.getfield 19, 3) := by decide +kernel
theorem dX0_passToByte_5 : decode cX0_passToByte 5 = .ok (.ineg, 1) := by decide +kernel
theorem dX0_passToByte_6 : decode cX0_passToByte 6 = .ok (.bipush 7, 2) := by decide +kernel
theorem dX0_passToByte_8 : decode cX0_passToByte 8 = .ok (.iand, 1) := by decide +kernel
theorem dX0_passToByte_9 : decode cX0_passToByte 9 = .ok (.invokevirtual 32, 3) := by decide +kernel
theorem dX0_passToByte_12 : decode cX0_passToByte 12 = .ok (.return_, 1) := by decide +kernel
set_option maxRecDepth 20000 in
theorem ggX0_peek_X0_byteAt : GoodIn wsX0_peek wsX0_byteAt := goodIn_ca (goodIn_r _ [6, 7, 8, 9, 10, 11] (by decide +kernel) (by decide +kernel)) (goodIn_sub (fun _ h => List.mem_cons_of_mem _ (List.mem_append_right _ h)) (by decide +kernel))
set_option maxRecDepth 20000 in
theorem gX0_peek_X0_byteAt : GoodIn wsX0_peek (wsV RX0 36 RX0 yX0_byteAt wsX0_byteAt) := goodIn_app (goodIn_of _ (by decide +kernel)) ggX0_peek_X0_byteAt
theorem dX0_peek_0 : decode cX0_peek 0 = .ok (.aload_n 0, 1) := by decide +kernel
theorem dX0_peek_1 : decode cX0_peek 1 = .ok (.getfield 19, 3) := by decide +kernel
theorem dX0_peek_4 : decode cX0_peek 4 = .ok (.bipush 8, 2) := by decide +kernel
theorem dX0_peek_6 : decode cX0_peek 6 = .ok (.idiv, 1) := by decide +kernel
theorem dX0_peek_7 : decode cX0_peek 7 = .ok (.istore_n 2, 1) := by decide +kernel
theorem dX0_peek_8 : decode cX0_peek 8 = .ok (.aload_n 0, 1) := by decide +kernel
theorem dX0_peek_9 : decode cX0_peek 9 = .ok (.iload_n 2, 1) := by decide +kernel
theorem dX0_peek_10 : decode cX0_peek 10 = .ok (.invokevirtual 36, 3) := by decide +kernel
theorem dX0_peek_13 : decode cX0_peek 13 = .ok (.bipush 16, 2) := by decide +kernel
theorem dX0_peek_15 : decode cX0_peek 15 = .ok (.ishl, 1) := by decide +kernel
theorem dX0_peek_16 : decode cX0_peek 16 = .ok (.aload_n 0, 1) := by decide +kernel
theorem dX0_peek_17 : decode cX0_peek 17 = .ok (.iload_n 2, 1) := by decide +kernel
theorem dX0_peek_18 : decode cX0_peek 18 = .ok (.iconst 1, 1) := by decide +kernel
theorem dX0_peek_19 : decode cX0_peek 19 = .ok (.iadd, 1) := by decide +kernel
theorem dX0_peek_20 : decode cX0_peek 20 = .ok (.invokevirtual 36, 3) := by decide +kernel
theorem dX0_peek_23 : decode cX0_peek 23 = .ok (.bipush 8, 2) := by decide +kernel
theorem dX0_peek_25 : decode cX0_peek 25 = .ok (.ishl, 1) := by decide +kernel
theorem dX0_peek_26 : decode cX0_peek 26 = .ok (.ior, 1) := by decide +kernel
theorem dX0_peek_27 : decode cX0_peek 27 = .ok (.aload_n 0, 1) := by decide +kernel
theorem dX0_peek_28 : decode cX0_peek 28 = .ok (.iload_n 2, 1) := by decide +kernel
theorem dX0_peek_29 : decode cX0_peek 29 = .ok (.iconst 2, 1) := by decide +kernel
theorem dX0_peek_30 : decode cX0_peek 30 = .ok (.iadd, 1) := by decide +kernel
theorem dX0_peek_31 : decode cX0_peek 31 = .ok (.invokevirtual 36, 3) := by decide +kernel
theorem dX0_peek_34 : decode cX0_peek 34 = .ok (.ior, 1) := by decide +kernel
theorem dX0_peek_35 : decode cX0_peek 35 = .ok (.istore_n 3, 1) := by decide +kernel
theorem dX0_peek_36 : decode cX0_peek 36 = .ok (.iload_n 3, 1) := by decide +kernel
theorem dX0_peek_37 : decode cX0_peek 37 = .ok (.bipush 24, 2) := by decide +kernel
theorem dX0_peek_39 : decode cX0_peek 39 = .ok (.aload_n 0, 1) := by decide +kernel
theorem dX0_peek_40 : decode cX0_peek 40 = .ok (.getfield 19, 3) := by decide +kernel
theorem dX0_peek_43 : decode cX0_peek 43 = .ok (.bipush 8, 2) := by decide +kernel
theorem dX0_peek_45 : decode cX0_peek 45 = .ok (.irem, 1) := by decide +kernel
theorem dX0_peek_46 : decode cX0_peek 46 = .ok (.isub, 1) := by decide +kernel
theorem dX0_peek_47 : decode cX0_peek 47 = .ok (.iload_n 1, 1) := by decide +kernel
theorem dX0_peek_48 : decode cX0_peek 48 = .ok (.isub, 1) := by decide +kernel
theorem dX0_peek_49 : decode cX0_peek 49 = .ok (.ishr, 1) := by decide +kernel
theorem dX0_peek_50 : decode cX0_peek 50 = .ok (.iconst 1, 1) := by decide +kernel
theorem dX0_peek_51 : decode cX0_peek 51 = .ok (.iload_n 1, 1) := by decide +kernel
theorem dX0_peek_52 : decode cX0_peek 52 = .ok (.ishl, 1) := by decide +kernel
theorem dX0_peek_53 : decode cX0_peek 53 = .ok (.iconst 1, 1) := by decide +kernel
theorem dX0_peek_54 : decode cX0_peek 54 = .ok (.isub, 1) := by decide +kernel
theorem dX0_peek_55 : decode cX0_peek 55 = .ok (.iand, 1) := by decide +kernel
theorem dX0_peek_56 : decode cX0_peek 56 = .ok (.ireturn, 1) := by decide +kernel
set_option maxRecDepth 20000 in
theorem ggX0_zeros_X0_left : GoodIn wsX0_zeros wsX0_left := goodIn_r _ [6, 7, 1, 17, 18, 19] (by decide +kernel) (by decide +kernel)
set_option maxRecDepth 20000 in
theorem gX0_zeros_X0_left : GoodIn wsX0_zeros (wsV RX0 22 RX0 yX0_left wsX0_left) := goodIn_app (goodIn_of _ (by decide +kernel)) ggX0_zeros_X0_left
set_option maxRecDepth 20000 in
theorem ggX0_zeros_X0_bitAt : GoodIn wsX0_zeros wsX0_bitAt := goodIn_ca (goodIn_r _ [11, 12, 13, 14, 5, 15, 7, 16, 17, 18, 19] (by decide +kernel) (by decide +kernel)) (goodIn_sub (fun _ h => List.mem_cons_of_mem _ (List.mem_append_right _ h)) (by decide +kernel))
set_option maxRecDepth 20000 in
theorem gX0_zeros_X0_bitAt : GoodIn wsX0_zeros (wsV RX0 40 RX0 yX0_bitAt wsX0_bitAt) := goodIn_app (goodIn_of _ (by decide +kernel)) ggX0_zeros_X0_bitAt
theorem dX0_zeros_0 : decode cX0_zeros 0 = .ok (.aload_n 0, 1) := by decide +kernel
theorem dX0_zeros_1 : decode cX0_zeros 1 = .ok (.invokevirtual 22, 3) := by decide +kernel
theorem dX0_zeros_4 : decode cX0_zeros 4 = .ok (.istore_n 1, 1) := by decide +kernel
theorem dX0_zeros_5 : decode cX0_zeros 5 = .ok (.iconst 0, 1) := by decide +kernel
theorem dX0_zeros_6 : decode cX0_zeros 6 = .ok (.istore_n 2, 1) := by decide +kernel
theorem dX0_zeros_7 : decode cX0_zeros 7 = .ok (.iload_n 2, 1) := by decide +kernel
theorem dX0_zeros_8 : decode cX0_zeros 8 = .ok (.iload_n 1, 1) := by decide +kernel
theorem dX0_zeros_9 : decode cX0_zeros 9 = .ok (.if_icmp .ge 24, 3) := by decide +kernel
theorem dX0_zeros_12 : decode cX0_zeros 12 = .ok (.aload_n 0, 1) := by decide +kernel
theorem dX0_zeros_13 : decode cX0_zeros 13 = .ok (.aload_n 0, 1) := by decide +kernel
theorem dX0_zeros_14 : decode cX0_zeros 14 = .ok (.getfield 19, 3) := by decide +kernel
theorem dX0_zeros_17 : decode cX0_zeros 17 = .ok (.iload_n 2, 1) := by decide +kernel
theorem dX0_zeros_18 : decode cX0_zeros 18 = .ok (.iadd, 1) := by decide +kernel
theorem dX0_zeros_19 : decode cX0_zeros 19 = .ok (.invokevirtual 40, 3) := by decide +kernel
theorem dX0_zeros_22 : decode cX0_zeros 22 = .ok (.ifCond .eq 5, 3) := by decide +kernel
theorem dX0_zeros_25 : decode cX0_zeros 25 = .ok (.iload_n 2, 1) := by decide +kernel
theorem dX0_zeros_26 : decode cX0_zeros 26 = .ok (.ireturn, 1) := by decide +kernel
theorem dX0_zeros_27 : decode cX0_zeros 27 = .ok (.iinc 2 1, 3) := by decide +kernel
theorem dX0_zeros_30 : decode cX0_zeros 30 = .ok (.goto (-23), 3) := by decide +kernel
theorem dX0_zeros_33 : decode cX0_zeros 33 = .ok (.iload_n 1, 1) := by decide +kernel
theorem dX0_zeros_34 : decode cX0_zeros 34 = .ok (.ireturn, 1) := by decide +kernel
set_option maxRecDepth 20000 in
theorem ggX0_isMarkNext_X0_zeros : GoodIn wsX0_isMarkNext wsX0_zeros := goodIn_ca (goodIn_r _ [5, 6, 7, 8, 9, 4, 10, 11, 12, 13, 14, 15, 16, 17, 18, 19, 20, 21, 22, 23] (by decide +kernel) (by decide +kernel)) (goodIn_sub (fun _ h => List.mem_cons_of_mem _ (List.mem_append_right _ h)) (by decide +kernel))
set_option maxRecDepth 20000 in
theorem gX0_isMarkNext_X0_zeros : GoodIn wsX0_isMarkNext (wsV RX0 43 RX0 yX0_zeros wsX0_zeros) := goodIn_app (goodIn_of _ (by decide +kernel)) ggX0_isMarkNext_X0_zeros
set_option maxRecDepth 20000 in
theorem ggX0_isMarkNext_X0_left : GoodIn wsX0_isMarkNext wsX0_left := goodIn_r _ [10, 11, 6, 21, 22, 23] (by decide +kernel) (by decide +kernel)
set_option maxRecDepth 20000 in
theorem gX0_isMarkNext_X0_left : GoodIn wsX0_isMarkNext (wsV RX0 22 RX0 yX0_left wsX0_left) := goodIn_app (goodIn_of _ (by decide +kernel)) ggX0_isMarkNext_X0_left
theorem dX0_isMarkNext_0 : decode cX0_isMarkNext 0 = .ok (.aload_n 0, 1) := by decide +kernel
theorem dX0_isMarkNext_1 : decode cX0_isMarkNext 1 = .ok (.invokevirtual 43, 3) := by decide +kernel
theorem dX0_isMarkNext_4 : decode cX0_isMarkNext 4 = .ok (.istore_n 1, 1) := by decide +kernel
theorem dX0_isMarkNext_5 : decode cX0_isMarkNext 5 = .ok (.iload_n 1, 1) := by decide +kernel
theorem dX0_isMarkNext_6 : decode cX0_isMarkNext 6 = .ok (.bipush 11, 2) := by decide +kernel
theorem dX0_isMarkNext_8 : decode cX0_isMarkNext 8 = .ok (.if_icmp .lt 15, 3) := by decide +kernel
theorem dX0_isMarkNext_11 : decode cX0_isMarkNext 11 = .ok (.iload_n 1, 1) := by decide +kernel
theorem dX0_isMarkNext_12 : decode cX0_isMarkNext 12 = .ok (.aload_n 0, 1) := by decide +kernel
theorem dX0_isMarkNext_13 : decode cX0_isMarkNext 13 = .ok (.invokevirtual 22, 3) := by decide +kernel
theorem dX0_isMarkNext_16 : decode cX0_isMarkNext 16 = .ok (.if_icmp .ge 7, 3) := by decide +kernel
theorem dX0_isMarkNext_19 : decode cX0_isMarkNext 19 = .ok (.iconst 1, 1) := by decide +kernel
theorem dX0_isMarkNext_20 : decode cX0_isMarkNext 20 = .ok (.goto 4, 3) := by decide +kernel
theorem dX0_isMarkNext_23 : decode cX0_isMarkNext 23 = .ok (.iconst 0, 1) := by decide +kernel
theorem dX0_isMarkNext_24 : decode cX0_isMarkNext 24 = .ok (.ireturn, 1) := by decide +kernel
set_option maxRecDepth 20000 in
theorem ggX0_passMark_X0_bitAt : GoodIn wsX0_passMark wsX0_bitAt := goodIn_ca (goodIn_r _ [7, 8, 9, 10, 6, 11, 1, 12, 13, 14, 15] (by decide +kernel) (by decide +kernel)) (goodIn_sub (fun _ h => List.mem_cons_of_mem _ (List.mem_append_right _ h)) (by decide +kernel))
set_option maxRecDepth 20000 in
theorem gX0_passMark_X0_bitAt : GoodIn wsX0_passMark (wsV RX0 40 RX0 yX0_bitAt wsX0_bitAt) := goodIn_app (goodIn_of _ (by decide +kernel)) ggX0_passMark_X0_bitAt
theorem dX0_passMark_0 : decode cX0_passMark 0 = .ok (.iconst 0, 1) := by decide +kernel
theorem dX0_passMark_1 : decode cX0_passMark 1 = .ok (.istore_n 1, 1) := by decide +kernel
theorem dX0_passMark_2 : decode cX0_passMark 2 = .ok (.bipush 8, 2) := by decide +kernel
theorem dX0_passMark_4 : decode cX0_passMark 4 = .ok (.aload_n 0, 1) := by decide +kernel
theorem dX0_passMark_5 : decode cX0_passMark 5 = .ok (.getfield 15, 3) := by decide +kernel
theorem dX0_passMark_8 : decode cX0_passMark 8 = .ok (.imul, 1) := by decide +kernel
theorem dX0_passMark_9 : decode cX0_passMark 9 = .ok (.istore_n 2, 1) := by decide +kernel
theorem dX0_passMark_10 : decode cX0_passMark 10 = .ok (.aload_n 0, 1) := by decide +kernel
theorem dX0_passMark_11 : decode cX0_passMark 11 = .ok (.getfield 19, 3) := by decide +kernel
theorem dX0_passMark_14 : decode cX0_passMark 14 = .ok (.istore_n 3, 1) := by decide +kernel
theorem dX0_passMark_15 : decode cX0_passMark 15 = .ok (.iload_n 3, 1) := by decide +kernel
theorem dX0_passMark_16 : decode cX0_passMark 16 = .ok (.iload_n 2, 1) := by decide +kernel
theorem dX0_passMark_17 : decode cX0_passMark 17 = .ok (.if_icmp .ge 57, 3) := by decide +kernel
theorem dX0_passMark_20 : decode cX0_passMark 20 = .ok (.aload_n 0, 1) := by decide +kernel
theorem dX0_passMark_21 : decode cX0_passMark 21 = .ok (.iload_n 3, 1) := by decide +kernel
theorem dX0_passMark_22 : decode cX0_passMark 22 = .ok (.invokevirtual 40, 3) := by decide +kernel
theorem dX0_passMark_25 : decode cX0_passMark 25 = .ok (.ifCond .eq 7, 3) := by decide +kernel
theorem dX0_passMark_28 : decode cX0_passMark 28 = .ok (.iconst 1, 1) := by decide +kernel
theorem dX0_passMark_29 : decode cX0_passMark 29 = .ok (.goto 4, 3) := by decide +kernel
theorem dX0_passMark_32 : decode cX0_passMark 32 = .ok (.iconst 0, 1) := by decide +kernel
theorem dX0_passMark_33 : decode cX0_passMark 33 = .ok (.istore 4, 2) := by decide +kernel
theorem dX0_passMark_35 : decode cX0_passMark 35 = .ok (.iload 4, 2) := by decide +kernel
theorem dX0_passMark_37 : decode cX0_passMark 37 = .ok (.ifCond .eq 18, 3) := by decide +kernel
theorem dX0_passMark_40 : decode cX0_passMark 40 = .ok (.iload_n 1, 1) := by decide +kernel
theorem dX0_passMark_41 : decode cX0_passMark 41 = .ok (.bipush 11, 2) := by decide +kernel
theorem dX0_passMark_43 : decode cX0_passMark 43 = .ok (.if_icmp .lt 12, 3) := by decide +kernel
theorem dX0_passMark_46 : decode cX0_passMark 46 = .ok (.aload_n 0, 1) := by decide +kernel
theorem dX0_passMark_47 : decode cX0_passMark 47 = .ok (.iload_n 3, 1) := by decide +kernel
theorem dX0_passMark_48 : decode cX0_passMark 48 = .ok (.iconst 1, 1) := by decide +kernel
theorem dX0_passMark_49 : decode cX0_passMark 49 = .ok (.iadd, 1) := by decide +kernel
theorem dX0_passMark_50 : decode cX0_passMark 50 = .ok (.putfield 19, 3) := by decide +kernel
theorem dX0_passMark_53 : decode cX0_passMark 53 = .ok (.iconst 1, 1) := by decide +kernel
theorem dX0_passMark_54 : decode cX0_passMark 54 = .ok (.ireturn, 1) := by decide +kernel
theorem dX0_passMark_55 : decode cX0_passMark 55 = .ok (.iload 4, 2) := by decide +kernel
theorem dX0_passMark_57 : decode cX0_passMark 57 = .ok (.ifCond .eq 7, 3) := by decide +kernel
theorem dX0_passMark_60 : decode cX0_passMark 60 = .ok (.iconst 0, 1) := by decide +kernel
theorem dX0_passMark_61 : decode cX0_passMark 61 = .ok (.goto 6, 3) := by decide +kernel
theorem dX0_passMark_64 : decode cX0_passMark 64 = .ok (.iload_n 1, 1) := by decide +kernel
theorem dX0_passMark_65 : decode cX0_passMark 65 = .ok (.iconst 1, 1) := by decide +kernel
theorem dX0_passMark_66 : decode cX0_passMark 66 = .ok (.iadd, 1) := by decide +kernel
theorem dX0_passMark_67 : decode cX0_passMark 67 = .ok (.istore_n 1, 1) := by decide +kernel
theorem dX0_passMark_68 : decode cX0_passMark 68 = .ok (.iinc 3 1, 3) := by decide +kernel
theorem dX0_passMark_71 : decode cX0_passMark 71 = .ok (.goto (-56), 3) := by decide +kernel
theorem dX0_passMark_74 : decode cX0_passMark 74 = .ok (.aload_n 0, 1) := by decide +kernel
theorem dX0_passMark_75 : decode cX0_passMark 75 = .ok (.iload_n 2, 1) := by decide +kernel
theorem dX0_passMark_76 : decode cX0_passMark 76 = .ok (.putfield 19, 3) := by decide +kernel
theorem dX0_passMark_79 : decode cX0_passMark 79 = .ok (.iconst 0, 1) := by decide +kernel
theorem dX0_passMark_80 : decode cX0_passMark 80 = .ok (.ireturn, 1) := by decide +kernel
set_option maxRecDepth 20000 in
theorem ggX0_bitAt_X0_byteAt : GoodIn wsX0_bitAt wsX0_byteAt := goodIn_ca (goodIn_r _ [5, 6, 7, 8, 9, 10] (by decide +kernel) (by decide +kernel)) (goodIn_sub (fun _ h => List.mem_cons_of_mem _ (List.mem_append_right _ h)) (by decide +kernel))
set_option maxRecDepth 20000 in
theorem gX0_bitAt_X0_byteAt : GoodIn wsX0_bitAt (wsV RX0 36 RX0 yX0_byteAt wsX0_byteAt) := goodIn_app (goodIn_of _ (by decide +kernel)) ggX0_bitAt_X0_byteAt
theorem dX0_bitAt_0 : decode cX0_bitAt 0 = .ok (.aload_n 0, 1) := by decide +kernel
theorem dX0_bitAt_1 : decode cX0_bitAt 1 = .ok (.iload_n 1, 1) := by decide +kernel
theorem dX0_bitAt_2 : decode cX0_bitAt 2 = .ok (.bipush 8, 2) := by decide +kernel
theorem dX0_bitAt_4 : decode cX0_bitAt 4 = .ok (.idiv, 1) := by decide +kernel
theorem dX0_bitAt_5 : decode cX0_bitAt 5 = .ok (.invokevirtual 36, 3) := by decide +kernel
theorem dX0_bitAt_8 : decode cX0_bitAt 8 = .ok (.bipush 7, 2) := by decide +kernel
theorem dX0_bitAt_10 : decode cX0_bitAt 10 = .ok (.iload_n 1, 1) := by decide +kernel
theorem dX0_bitAt_11 : decode cX0_bitAt 11 = .ok (.bipush 8, 2) := by decide +kernel
theorem dX0_bitAt_13 : decode cX0_bitAt 13 = .ok (.irem, 1) := by decide +kernel
theorem dX0_bitAt_14 : decode cX0_bitAt 14 = .ok (.isub, 1) := by decide +kernel
theorem dX0_bitAt_15 : decode cX0_bitAt 15 = .ok (.ishr, 1) := by decide +kernel
theorem dX0_bitAt_16 : decode cX0_bitAt 16 = .ok (.iconst 1, 1) := by decide +kernel
theorem dX0_bitAt_17 : decode cX0_bitAt 17 = .ok (.iand, 1) := by decide +kernel
theorem dX0_bitAt_18 : decode cX0_bitAt 18 = .ok (.ireturn, 1) := by decide +kernel
theorem dX0_byteAt_0 : decode cX0_byteAt 0 = .ok (.iload_n 1, 1) := by decide +kernel
theorem dX0_byteAt_1 : decode cX0_byteAt 1 = .ok (.ifCond .lt 33, 3) := by decide +kernel
theorem dX0_byteAt_4 : decode cX0_byteAt 4 = .ok (.iload_n 1, 1) := by decide +kernel
theorem dX0_byteAt_5 : decode cX0_byteAt 5 = .ok (.aload_n 0, 1) := by decide +kernel
theorem dX0_byteAt_6 : decode cX0_byteAt 6 = .ok (.getfield 15, 3) := by decide +kernel
theorem dX0_byteAt_9 : decode cX0_byteAt 9 = .ok (.if_icmp .ge 25, 3) := by decide +kernel
theorem dX0_byteAt_12 : decode cX0_byteAt 12 = .ok (.iload_n 1, 1) := by decide +kernel
theorem dX0_byteAt_13 : decode cX0_byteAt 13 = .ok (.aload_n 0, 1) := by decide +kernel
theorem dX0_byteAt_14 : decode cX0_byteAt 14 = .ok (.getfield 9, 3) := by decide +kernel
theorem dX0_byteAt_17 : decode cX0_byteAt 17 = .ok (.arraylength, 1) := by decide +kernel
theorem dX0_byteAt_18 : decode cX0_byteAt 18 = .ok (.if_icmp .ge 16, 3) := by decide +kernel
theorem dX0_byteAt_21 : decode cX0_byteAt 21 = .ok (.aload_n 0, 1) := by decide +kernel
theorem dX0_byteAt_22 : decode cX0_byteAt 22 = .ok (.getfield 9, 3) := by decide +kernel
theorem dX0_byteAt_25 : decode cX0_byteAt 25 = .ok (.iload_n 1, 1) := by decide +kernel
theorem dX0_byteAt_26 : decode cX0_byteAt 26 = .ok (.baload, 1) := by decide +kernel
theorem dX0_byteAt_27 : decode cX0_byteAt 27 = .ok (.sipush 255, 3) := by decide +kernel
theorem dX0_byteAt_30 : decode cX0_byteAt 30 = .ok (.iand, 1) := by decide +kernel
theorem dX0_byteAt_31 : decode cX0_byteAt 31 = .ok (.goto 4, 3) := by decide +kernel
theorem dX0_byteAt_34 : decode cX0_byteAt 34 = .ok (.iconst 0, 1) := by decide +kernel
theorem dX0_byteAt_35 : decode cX0_byteAt 35 = .ok (.ireturn, 1) := by decide +kernel
theorem dX1_init_0 : decode cX1_init 0 = .ok (.aload_n 0, 1) := by decide +kernel
theorem dX1_init_1 : decode cX1_init 1 = .ok (.invokespecial 3, 3) := by decide +kernel
theorem dX1_init_4 : decode cX1_init 4 = .ok (.aload_n 0, 1) := by decide +kernel
theorem dX1_init_5 : decode cX1_init 5 = .ok (.bipush 24, 2) := by decide +kernel
theorem dX1_init_7 : decode cX1_init 7 = .ok (.bipush 7, 2) := by decide +kernel
theorem dX1_init_9 : decode cX1_init 9 = .ok (.iload_n 1, 1) := by decide +kernel
theorem dX1_init_10 : decode cX1_init 10 = .ok (.imul, 1) := by decide +kernel
theorem dX1_init_11 : decode cX1_init 11 = .ok (.bipush 60, 2) := by decide +kernel
theorem dX1_init_13 : decode cX1_init 13 = .ok (.iadd, 1) := by decide +kernel
theorem dX1_init_14 : decode cX1_init 14 = .ok (.imul, 1) := by decide +kernel
theorem dX1_init_15 : decode cX1_init 15 = .ok (.bipush 8, 2) := by decide +kernel
theorem dX1_init_17 : decode cX1_init 17 = .ok (.idiv, 1) := by decide +kernel
theorem dX1_init_18 : decode cX1_init 18 = .ok (.bipush 16, 2) := by decide +kernel
theorem dX1_init_20 : decode cX1_init 20 = .ok (.iadd, 1) := by decide +kernel
theorem dX1_init_21 : decode cX1_init 21 = .ok (.newarray .byte, 2) := by decide +kernel
theorem dX1_init_23 : decode cX1_init 23 = .ok (.putfield 9, 3) := by decide +kernel
theorem dX1_init_26 : decode cX1_init 26 = .ok (.return_, 1) := by decide +kernel
theorem dX1_restart_0 : decode cX1_restart 0 = .ok (.aload_n 0, 1) := by decide +kernel
theorem dX1_restart_1 : decode cX1_restart 1 = .ok (.iconst 0, 1) := by decide +kernel
theorem dX1_restart_2 : decode cX1_restart 2 = .ok (.putfield 15, 3) := by decide +kernel
theorem dX1_restart_5 : decode cX1_restart 5 = .ok (.return_, 1) := by decide +kernel
theorem dX1_size_0 : decode cX1_size 0 = .ok (.aload_n 0, 1) := by decide +kernel
theorem dX1_size_1 : decode cX1_size 1 = .ok (.getfield 15, 3) := by decide +kernel
theorem dX1_size_4 : decode cX1_size 4 = .ok (.bipush 7, 2) := by decide +kernel
theorem dX1_size_6 : decode cX1_size 6 = .ok (.iadd, 1) := by decide +kernel
theorem dX1_size_7 : decode cX1_size 7 = .ok (.bipush 8, 2) := by decide +kernel
theorem dX1_size_9 : decode cX1_size 9 = .ok (.idiv, 1) := by decide +kernel
theorem dX1_size_10 : decode cX1_size 10 = .ok (.ireturn, 1) := by decide +kernel
theorem dX1_byteAt_0 : decode cX1_byteAt 0 = .ok (.iload_n 1, 1) := by decide +kernel
theorem dX1_byteAt_1 : decode cX1_byteAt 1 = .ok (.ifCond .lt 25, 3) := by decide +kernel
theorem dX1_byteAt_4 : decode cX1_byteAt 4 = .ok (.iload_n 1, 1) := by decide +kernel
theorem dX1_byteAt_5 : decode cX1_byteAt 5 = .ok (.aload_n 0, 1) := by decide +kernel
theorem dX1_byteAt_6 : decode cX1_byteAt 6 = .ok (.getfield 9, 3) := by decide +kernel
theorem dX1_byteAt_9 : decode cX1_byteAt 9 = .ok (.arraylength, 1) := by decide +kernel
theorem dX1_byteAt_10 : decode cX1_byteAt 10 = .ok (.if_icmp .ge 16, 3) := by decide +kernel
theorem dX1_byteAt_13 : decode cX1_byteAt 13 = .ok (.aload_n 0, 1) := by decide +kernel
theorem dX1_byteAt_14 : decode cX1_byteAt 14 = .ok (.getfield 9, 3) := by decide +kernel
theorem dX1_byteAt_17 : decode cX1_byteAt 17 = .ok (.iload_n 1, 1) := by decide +kernel
theorem dX1_byteAt_18 : decode cX1_byteAt 18 = .ok (.baload, 1) := by decide +kernel
theorem dX1_byteAt_19 : decode cX1_byteAt 19 = .ok (.sipush 255, 3) := by decide +kernel
theorem dX1_byteAt_22 : decode cX1_byteAt 22 = .ok (.iand, 1) := by decide +kernel
theorem dX1_byteAt_23 : decode cX1_byteAt 23 = .ok (.goto 4, 3) := by decide +kernel
theorem dX1_byteAt_26 : decode cX1_byteAt 26 = .ok (.iconst 0, 1) := by decide +kernel
theorem dX1_byteAt_27 : decode cX1_byteAt 27 = .ok (.ireturn, 1) := by decide +kernel
theorem dX1_send_0 : decode cX1_send 0 = .ok (.iload_n 2, 1) := by decide +kernel
theorem dX1_send_1 : decode cX1_send 1 = .ok (.iconst 1, 1) := by decide +kernel
theorem dX1_send_2 : decode cX1_send 2 = .ok (.isub, 1) := by decide +kernel
theorem dX1_send_3 : decode cX1_send 3 = .ok (.istore_n 3, 1) := by decide +kernel
theorem dX1_send_4 : decode cX1_send 4 = .ok (.iload_n 3, 1) := by decide +kernel
theorem dX1_send_5 : decode cX1_send 5 = .ok (.ifCond .lt 94, 3) := by decide +kernel
theorem dX1_send_8 : decode cX1_send 8 = .ok (.aload_n 0, 1) := by decide +kernel
theorem dX1_send_9 : decode cX1_send 9 = .ok (.getfield 15, 3) := by decide +kernel
theorem dX1_send_12 : decode cX1_send 12 = .ok (.bipush 8, 2) := by decide +kernel
theorem dX1_send_14 : decode cX1_send 14 = .ok (.idiv, 1) := by decide +kernel
theorem dX1_send_15 : decode cX1_send 15 = .ok (.istore 4, 2) := by decide +kernel
theorem dX1_send_17 : decode cX1_send 17 = .ok (.bipush 7, 2) := by decide +kernel
theorem dX1_send_19 : decode cX1_send 19 = .ok (.aload_n 0, 1) := by decide +kernel
theorem dX1_send_20 : decode cX1_send 20 = .ok (.getfield 15, 3) := by decide +kernel
theorem dX1_send_23 : decode cX1_send 23 = .ok (.bipush 8, 2) := by decide +kernel
theorem dX1_send_25 : decode cX1_send 25 = .ok (.irem, 1) := by decide +kernel
theorem dX1_send_26 : decode cX1_send 26 = .ok (.isub, 1) := by decide +kernel
theorem dX1_send_27 : decode cX1_send 27 = .ok (.istore 5, 2) := by decide +kernel
theorem dX1_send_29 : decode cX1_send 29 = .ok (.iload 4, 2) := by decide +kernel
theorem dX1_send_31 : decode cX1_send 31 = .ok (.ifCond .lt 62, 3) := by decide +kernel
theorem dX1_send_34 : decode cX1_send 34 = .ok (.iload 4, 2) := by decide +kernel
theorem dX1_send_36 : decode cX1_send 36 = .ok (.aload_n 0, 1) := by decide +kernel
theorem dX1_send_37 : decode cX1_send 37 = .ok (.getfield 9, 3) := by decide +kernel
theorem dX1_send_40 : decode cX1_send 40 = .ok (.arraylength, 1) := by decide +kernel
theorem dX1_send_41 : decode cX1_send 41 = .ok (.if_icmp .ge 52, 3) := by decide +kernel
theorem dX1_send_44 : decode cX1_send 44 = .ok (.iload 5, 2) := by decide +kernel
theorem dX1_send_46 : decode cX1_send 46 = .ok (.bipush 7, 2) := by decide +kernel
theorem dX1_send_48 : decode cX1_send 48 = .ok (.if_icmp .ne 7, 3) := by decide +kernel
theorem dX1_send_51 : decode cX1_send 51 = .ok (.iconst 0, 1) := by decide +kernel
theorem dX1_send_52 : decode cX1_send 52 = .ok (.goto 10, 3) := by decide +kernel
theorem dX1_send_55 : decode cX1_send 55 = .ok (.aload_n 0, 1) := by decide +kernel
theorem dX1_send_56 : decode cX1_send 56 = .ok (.getfield 9, 3) := by decide +kernel
theorem dX1_send_59 : decode cX1_send 59 = .ok (.iload 4, 2) := by decide +kernel
theorem dX1_send_61 : decode cX1_send 61 = .ok (.baload, 1) := by decide +kernel
theorem dX1_send_62 : decode cX1_send 62 = .ok (.istore 6, 2) := by decide +kernel
theorem dX1_send_64 : decode cX1_send 64 = .ok (.aload_n 0, 1) := by decide +kernel
theorem dX1_send_65 : decode cX1_send 65 = .ok (.getfield 9, 3) := by decide +kernel
theorem dX1_send_68 : decode cX1_send 68 = .ok (.iload 4, 2) := by decide +kernel
theorem dX1_send_70 : decode cX1_send 70 = .ok (.iload 6, 2) := by decide +kernel
theorem dX1_send_72 : decode cX1_send 72 = .ok (.iload_n 1, 1) := by decide +kernel
theorem dX1_send_73 : decode cX1_send 73 = .ok (.iload_n 3, 1) := by decide +kernel
theorem dX1_send_74 : decode cX1_send 74 = .ok (.ishr, 1) := by decide +kernel
theorem dX1_send_75 : decode cX1_send 75 = .ok (.iconst 1, 1) := by decide +kernel
theorem dX1_send_76 : decode cX1_send 76 = .ok (.iand, 1) := by decide +kernel
theorem dX1_send_77 : decode cX1_send 77 = .ok (.iload 5, 2) := by decide +kernel
theorem dX1_send_79 : decode cX1_send 79 = .ok (.ishl, 1) := by decide +kernel
theorem dX1_send_80 : decode cX1_send 80 = .ok (.ior, 1) := by decide +kernel
theorem dX1_send_81 : decode cX1_send 81 = .ok (.i2b, 1) := by decide +kernel
theorem dX1_send_82 : decode cX1_send 82 = .ok (.bastore, 1) := by decide +kernel
theorem dX1_send_83 : decode cX1_send 83 = .ok (.aload_n 0, 1) := by decide +kernel
theorem dX1_send_84 : decode cX1_send 84 = .ok (.dup, 1) := by decide +kernel
theorem dX1_send_85 : decode cX1_send 85 = .ok (.getfield 15, 3) := by decide +kernel
theorem dX1_send_88 : decode cX1_send 88 = .ok (.iconst 1, 1) := by decide +kernel
theorem dX1_send_89 : decode cX1_send 89 = .ok (.iadd, 1) := by decide +kernel
theorem dX1_send_90 : decode cX1_send 90 = .ok (.putfield 15, 3) := by decide +kernel
theorem dX1_send_93 : decode cX1_send 93 = .ok (.iinc 3 (-1), 3) := by decide +kernel
theorem dX1_send_96 : decode cX1_send 96 = .ok (.goto (-92), 3) := by decide +kernel
theorem dX1_send_99 : decode cX1_send 99 = .ok (.return_, 1) := by decide +kernel
set_option maxRecDepth 20000 in
theorem ggX1_alignFor_X1_send : GoodIn wsX1_alignFor wsX1_send := goodIn_ca (goodIn_r _ [6, 1, 7, 8, 9] (by decide +kernel) (by decide +kernel)) (goodIn_sub (fun _ h => List.mem_cons_of_mem _ (List.mem_append_right _ h)) (by decide +kernel))
set_option maxRecDepth 20000 in
theorem gX1_alignFor_X1_send : GoodIn wsX1_alignFor (wsV RX1 19 RX1 yX1_send wsX1_send) := goodIn_app (goodIn_of _ (by decide +kernel)) ggX1_alignFor_X1_send
theorem dX1_alignFor_0 : decode cX1_alignFor 0 = .ok (.aload_n 0, 1) := by decide +kernel
theorem dX1_alignFor_1 : decode cX1_alignFor 1 = .ok (.iconst 0, 1) := by decide +kernel
theorem dX1_alignFor_2 : decode cX1_alignFor 2 = .ok (.aload_n 0, 1) := by decide +kernel
theorem dX1_alignFor_3 : decode cX1_alignFor 3 = .ok (.getfield 15, 3) := by decide +kernel
theorem dX1_alignFor_6 : decode cX1_alignFor 6 = .ok (.iload_n 1, 1) := by decide +kernel
theorem dX1_alignFor_7 : decode cX1_alignFor 7 = .ok (.iadd, 1) := by decide +kernel
theorem dX1_alignFor_8 : decode cX1_alignFor 8 = .ok (.ineg, 1) := by decide +kernel
theorem dX1_alignFor_9 : decode cX1_alignFor 9 = .ok (.bipush 7, 2) := by decide +kernel
theorem dX1_alignFor_11 : decode cX1_alignFor 11 = .ok (.iand, 1) := by decide +kernel
theorem dX1_alignFor_12 : decode cX1_alignFor 12 = .ok (.invokevirtual 19, 3) := by decide +kernel
theorem dX1_alignFor_15 : decode cX1_alignFor 15 = .ok (.return_, 1) := by decide +kernel
theorem dX2_init_0 : decode cX2_init 0 = .ok (.aload_n 0, 1) := by decide +kernel
theorem dX2_init_1 : decode cX2_init 1 = .ok (.invokespecial 3, 3) := by decide +kernel
theorem dX2_init_4 : decode cX2_init 4 = .ok (.aload_n 0, 1) := by decide +kernel
theorem dX2_init_5 : decode cX2_init 5 = .ok (.bipush 24, 2) := by decide +kernel
theorem dX2_init_7 : decode cX2_init 7 = .ok (.newarray .int, 2) := by decide +kernel
theorem dX2_init_9 : decode cX2_init 9 = .ok (.putfield 9, 3) := by decide +kernel
theorem dX2_init_12 : decode cX2_init 12 = .ok (.aload_n 0, 1) := by decide +kernel
theorem dX2_init_13 : decode cX2_init 13 = .ok (.iload_n 1, 1) := by decide +kernel
theorem dX2_init_14 : decode cX2_init 14 = .ok (.putfield 15, 3) := by decide +kernel
theorem dX2_init_17 : decode cX2_init 17 = .ok (.aload_n 0, 1) := by decide +kernel
theorem dX2_init_18 : decode cX2_init 18 = .ok (.iload_n 1, 1) := by decide +kernel
theorem dX2_init_19 : decode cX2_init 19 = .ok (.bipush 63, 2) := by decide +kernel
theorem dX2_init_21 : decode cX2_init 21 = .ok (.iadd, 1) := by decide +kernel
theorem dX2_init_22 : decode cX2_init 22 = .ok (.bipush 64, 2) := by decide +kernel
theorem dX2_init_24 : decode cX2_init 24 = .ok (.idiv, 1) := by decide +kernel
theorem dX2_init_25 : decode cX2_init 25 = .ok (.putfield 19, 3) := by decide +kernel
theorem dX2_init_28 : decode cX2_init 28 = .ok (.aload_n 0, 1) := by decide +kernel
theorem dX2_init_29 : decode cX2_init 29 = .ok (.bipush 24, 2) := by decide +kernel
theorem dX2_init_31 : decode cX2_init 31 = .ok (.aload_n 0, 1) := by decide +kernel
theorem dX2_init_32 : decode cX2_init 32 = .ok (.getfield 19, 3) := by decide +kernel
theorem dX2_init_35 : decode cX2_init 35 = .ok (.imul, 1) := by decide +kernel
theorem dX2_init_36 : decode cX2_init 36 = .ok (.newarray .long, 2) := by decide +kernel
theorem dX2_init_38 : decode cX2_init 38 = .ok (.putfield 22, 3) := by decide +kernel
theorem dX2_init_41 : decode cX2_init 41 = .ok (.return_, 1) := by decide +kernel
theorem dX2_has_0 : decode cX2_has 0 = .ok (.iload_n 1, 1) := by decide +kernel
theorem dX2_has_1 : decode cX2_has 1 = .ok (.ifCond .lt 15, 3) := by decide +kernel
theorem dX2_has_4 : decode cX2_has 4 = .ok (.iload_n 1, 1) := by decide +kernel
theorem dX2_has_5 : decode cX2_has 5 = .ok (.aload_n 0, 1) := by decide +kernel
theorem dX2_has_6 : decode cX2_has 6 = .ok (.getfield 26, 3) := by decide +kernel
theorem dX2_has_9 : decode cX2_has 9 = .ok (.if_icmp .ge 7, 3) := by decide +kernel
theorem dX2_has_12 : decode cX2_has 12 = .ok (.iconst 1, 1) := by decide +kernel
theorem dX2_has_13 : decode cX2_has 13 = .ok (.goto 4, 3) := by decide +kernel
theorem dX2_has_16 : decode cX2_has 16 = .ok (.iconst 0, 1) := by decide +kernel
theorem dX2_has_17 : decode cX2_has 17 = .ok (.ireturn, 1) := by decide +kernel
theorem dX2_stateOf_0 : decode cX2_stateOf 0 = .ok (.iload_n 1, 1) := by decide +kernel
theorem dX2_stateOf_1 : decode cX2_stateOf 1 = .ok (.ifCond .lt 18, 3) := by decide +kernel
theorem dX2_stateOf_4 : decode cX2_stateOf 4 = .ok (.iload_n 1, 1) := by decide +kernel
theorem dX2_stateOf_5 : decode cX2_stateOf 5 = .ok (.bipush 24, 2) := by decide +kernel
theorem dX2_stateOf_7 : decode cX2_stateOf 7 = .ok (.if_icmp .ge 12, 3) := by decide +kernel
theorem dX2_stateOf_10 : decode cX2_stateOf 10 = .ok (.aload_n 0, 1) := by decide +kernel
theorem dX2_stateOf_11 : decode cX2_stateOf 11 = .ok (.getfield 9, 3) := by decide +kernel
theorem dX2_stateOf_14 : decode cX2_stateOf 14 = .ok (.iload_n 1, 1) := by decide +kernel
theorem dX2_stateOf_15 : decode cX2_stateOf 15 = .ok (.iaload, 1) := by decide +kernel
theorem dX2_stateOf_16 : decode cX2_stateOf 16 = .ok (.goto 4, 3) := by decide +kernel
theorem dX2_stateOf_19 : decode cX2_stateOf 19 = .ok (.iconst 0, 1) := by decide +kernel
theorem dX2_stateOf_20 : decode cX2_stateOf 20 = .ok (.ireturn, 1) := by decide +kernel
theorem dX2_mend_0 : decode cX2_mend 0 = .ok (.iload_n 1, 1) := by decide +kernel
theorem dX2_mend_1 : decode cX2_mend 1 = .ok (.ifCond .lt 16, 3) := by decide +kernel
theorem dX2_mend_4 : decode cX2_mend 4 = .ok (.iload_n 1, 1) := by decide +kernel
theorem dX2_mend_5 : decode cX2_mend 5 = .ok (.bipush 24, 2) := by decide +kernel
theorem dX2_mend_7 : decode cX2_mend 7 = .ok (.if_icmp .ge 10, 3) := by decide +kernel
theorem dX2_mend_10 : decode cX2_mend 10 = .ok (.aload_n 0, 1) := by decide +kernel
theorem dX2_mend_11 : decode cX2_mend 11 = .ok (.getfield 9, 3) := by decide +kernel
theorem dX2_mend_14 : decode cX2_mend 14 = .ok (.iload_n 1, 1) := by decide +kernel
theorem dX2_mend_15 : decode cX2_mend 15 = .ok (.iconst 0, 1) := by decide +kernel
theorem dX2_mend_16 : decode cX2_mend 16 = .ok (.iastore, 1) := by decide +kernel
theorem dX2_mend_17 : decode cX2_mend 17 = .ok (.return_, 1) := by decide +kernel
theorem dX2_keep_0 : decode cX2_keep 0 = .ok (.aload_n 0, 1) := by decide +kernel
theorem dX2_keep_1 : decode cX2_keep 1 = .ok (.getfield 26, 3) := by decide +kernel
theorem dX2_keep_4 : decode cX2_keep 4 = .ok (.ifCond .lt 32, 3) := by decide +kernel
theorem dX2_keep_7 : decode cX2_keep 7 = .ok (.aload_n 0, 1) := by decide +kernel
theorem dX2_keep_8 : decode cX2_keep 8 = .ok (.getfield 26, 3) := by decide +kernel
theorem dX2_keep_11 : decode cX2_keep 11 = .ok (.bipush 24, 2) := by decide +kernel
theorem dX2_keep_13 : decode cX2_keep 13 = .ok (.if_icmp .ge 23, 3) := by decide +kernel
theorem dX2_keep_16 : decode cX2_keep 16 = .ok (.aload_n 0, 1) := by decide +kernel
theorem dX2_keep_17 : decode cX2_keep 17 = .ok (.getfield 9, 3) := by decide +kernel
theorem dX2_keep_20 : decode cX2_keep 20 = .ok (.aload_n 0, 1) := by decide +kernel
theorem dX2_keep_21 : decode cX2_keep 21 = .ok (.getfield 26, 3) := by decide +kernel
theorem dX2_keep_24 : decode cX2_keep 24 = .ok (.iload_n 1, 1) := by decide +kernel
theorem dX2_keep_25 : decode cX2_keep 25 = .ok (.iastore, 1) := by decide +kernel
theorem dX2_keep_26 : decode cX2_keep 26 = .ok (.aload_n 0, 1) := by decide +kernel
theorem dX2_keep_27 : decode cX2_keep 27 = .ok (.dup, 1) := by decide +kernel
theorem dX2_keep_28 : decode cX2_keep 28 = .ok (.getfield 26, 3) := by decide +kernel
theorem dX2_keep_31 : decode cX2_keep 31 = .ok (.iconst 1, 1) := by decide +kernel
theorem dX2_keep_32 : decode cX2_keep 32 = .ok (.iadd, 1) := by decide +kernel
theorem dX2_keep_33 : decode cX2_keep 33 = .ok (.putfield 26, 3) := by decide +kernel
theorem dX2_keep_36 : decode cX2_keep 36 = .ok (.return_, 1) := by decide +kernel
set_option maxRecDepth 20000 in
theorem ggX2_whiten_X2_paint : GoodIn wsX2_whiten wsX2_paint := goodIn_ca (goodIn_r _ [6, 1, 7, 8, 9, 10, 11, 12, 13, 14, 15, 16, 17, 18, 5, 19, 20, 21, 22, 23, 24, 25] (by decide +kernel) (by decide +kernel)) (goodIn_sub (fun _ h => List.mem_cons_of_mem _ (List.mem_append_right _ h)) (by decide +kernel))
set_option maxRecDepth 20000 in
theorem gX2_whiten_X2_paint : GoodIn wsX2_whiten (wsV RX2 29 RX2 yX2_paint wsX2_paint) := goodIn_app (goodIn_of _ (by decide +kernel)) ggX2_whiten_X2_paint
theorem dX2_whiten_0 : decode cX2_whiten 0 = .ok (.aload_n 0, 1) := by decide +kernel
theorem dX2_whiten_1 : decode cX2_whiten 1 = .ok (.iload_n 1, 1) := by decide +kernel
theorem dX2_whiten_2 : decode cX2_whiten 2 = .ok (.iconst 0, 1) := by decide +kernel
theorem dX2_whiten_3 : decode cX2_whiten 3 = .ok (.aload_n 0, 1) := by decide +kernel
theorem dX2_whiten_4 : decode cX2_whiten 4 = .ok (.getfield 15, 3) := by decide +kernel
theorem dX2_whiten_7 : decode cX2_whiten 7 = .ok (.iconst 0, 1) := by decide +kernel
theorem dX2_whiten_8 : decode cX2_whiten 8 = .ok (.invokevirtual 29, 3) := by decide +kernel
theorem dX2_whiten_11 : decode cX2_whiten 11 = .ok (.return_, 1) := by decide +kernel
set_option maxRecDepth 20000 in
theorem ggX2_copyAbove_X2_indexOf : GoodIn wsX2_copyAbove wsX2_indexOf := goodIn_r _ [7, 1, 12, 13, 14, 15, 16] (by decide +kernel) (by decide +kernel)
set_option maxRecDepth 20000 in
theorem gX2_copyAbove_X2_indexOf : GoodIn wsX2_copyAbove (wsV RX2 33 RX2 yX2_indexOf wsX2_indexOf) := goodIn_app (goodIn_of _ (by decide +kernel)) ggX2_copyAbove_X2_indexOf
set_option maxRecDepth 20000 in
theorem ggX2_copyAbove_X2_wordOf : GoodIn wsX2_copyAbove wsX2_wordOf := goodIn_ca (goodIn_r _ [11, 2, 3, 4, 5, 6, 7, 1, 12, 13, 14, 15, 16] (by decide +kernel) (by decide +kernel)) (goodIn_sub (fun _ h => List.mem_cons_of_mem _ (List.mem_append_right _ h)) (by decide +kernel))
set_option maxRecDepth 20000 in
theorem gX2_copyAbove_X2_wordOf : GoodIn wsX2_copyAbove (wsV RX2 37 RX2 yX2_wordOf wsX2_wordOf) := goodIn_app (goodIn_of _ (by decide +kernel)) ggX2_copyAbove_X2_wordOf
theorem dX2_copyAbove_0 : decode cX2_copyAbove 0 = .ok (.iconst 0, 1) := by decide +kernel
theorem dX2_copyAbove_1 : decode cX2_copyAbove 1 = .ok (.istore_n 2, 1) := by decide +kernel
theorem dX2_copyAbove_2 : decode cX2_copyAbove 2 = .ok (.iload_n 2, 1) := by decide +kernel
theorem dX2_copyAbove_3 : decode cX2_copyAbove 3 = .ok (.aload_n 0, 1) := by decide +kernel
theorem dX2_copyAbove_4 : decode cX2_copyAbove 4 = .ok (.getfield 19, 3) := by decide +kernel
theorem dX2_copyAbove_7 : decode cX2_copyAbove 7 = .ok (.if_icmp .ge 43, 3) := by decide +kernel
theorem dX2_copyAbove_10 : decode cX2_copyAbove 10 = .ok (.aload_n 0, 1) := by decide +kernel
theorem dX2_copyAbove_11 : decode cX2_copyAbove 11 = .ok (.iload_n 1, 1) := by decide +kernel
theorem dX2_copyAbove_12 : decode cX2_copyAbove 12 = .ok (.iload_n 2, 1) := by decide +kernel
theorem dX2_copyAbove_13 : decode cX2_copyAbove 13 = .ok (.invokevirtual 33, 3) := by decide +kernel
theorem dX2_copyAbove_16 : decode cX2_copyAbove 16 = .ok (.istore_n 3, 1) := by decide +kernel
theorem dX2_copyAbove_17 : decode cX2_copyAbove 17 = .ok (.iload_n 3, 1) := by decide +kernel
theorem dX2_copyAbove_18 : decode cX2_copyAbove 18 = .ok (.ifCond .lt 26, 3) := by decide +kernel
theorem dX2_copyAbove_21 : decode cX2_copyAbove 21 = .ok (.iload_n 3, 1) := by decide +kernel
theorem dX2_copyAbove_22 : decode cX2_copyAbove 22 = .ok (.aload_n 0, 1) := by decide +kernel
theorem dX2_copyAbove_23 : decode cX2_copyAbove 23 = .ok (.getfield 22, 3) := by decide +kernel
theorem dX2_copyAbove_26 : decode cX2_copyAbove 26 = .ok (.arraylength, 1) := by decide +kernel
theorem dX2_copyAbove_27 : decode cX2_copyAbove 27 = .ok (.if_icmp .ge 17, 3) := by decide +kernel
theorem dX2_copyAbove_30 : decode cX2_copyAbove 30 = .ok (.aload_n 0, 1) := by decide +kernel
theorem dX2_copyAbove_31 : decode cX2_copyAbove 31 = .ok (.getfield 22, 3) := by decide +kernel
theorem dX2_copyAbove_34 : decode cX2_copyAbove 34 = .ok (.iload_n 3, 1) := by decide +kernel
theorem dX2_copyAbove_35 : decode cX2_copyAbove 35 = .ok (.aload_n 0, 1) := by decide +kernel
theorem dX2_copyAbove_36 : decode cX2_copyAbove 36 = .ok (.iload_n 1, 1) := by decide +kernel
theorem dX2_copyAbove_37 : decode cX2_copyAbove 37 = .ok (.iconst 1, 1) := by decide +kernel
theorem dX2_copyAbove_38 : decode cX2_copyAbove 38 = .ok (.isub, 1) := by decide +kernel
theorem dX2_copyAbove_39 : decode cX2_copyAbove 39 = .ok (.iload_n 2, 1) := by decide +kernel
theorem dX2_copyAbove_40 : decode cX2_copyAbove 40 = .ok (.invokevirtual 37, 3) := by decide +kernel
theorem dX2_copyAbove_43 : decode cX2_copyAbove 43 = .ok (.lastore, 1) := by decide +kernel
theorem dX2_copyAbove_44 : decode cX2_copyAbove 44 = .ok (.iinc 2 1, 3) := by decide +kernel
theorem dX2_copyAbove_47 : decode cX2_copyAbove 47 = .ok (.goto (-45), 3) := by decide +kernel
theorem dX2_copyAbove_50 : decode cX2_copyAbove 50 = .ok (.return_, 1) := by decide +kernel
set_option maxRecDepth 20000 in
theorem ggX2_paint_X2_indexOf : GoodIn wsX2_paint wsX2_indexOf := goodIn_r _ [15, 16, 17, 18, 19, 20, 21] (by decide +kernel) (by decide +kernel)
set_option maxRecDepth 20000 in
theorem gX2_paint_X2_indexOf : GoodIn wsX2_paint (wsV RX2 33 RX2 yX2_indexOf wsX2_indexOf) := goodIn_app (goodIn_of _ (by decide +kernel)) ggX2_paint_X2_indexOf
theorem dX2_paint_0 : decode cX2_paint 0 = .ok (.iload_n 2, 1) := by decide +kernel
theorem dX2_paint_1 : decode cX2_paint 1 = .ok (.ifCond .lt 16, 3) := by decide +kernel
theorem dX2_paint_4 : decode cX2_paint 4 = .ok (.iload_n 2, 1) := by decide +kernel
theorem dX2_paint_5 : decode cX2_paint 5 = .ok (.iload_n 3, 1) := by decide +kernel
theorem dX2_paint_6 : decode cX2_paint 6 = .ok (.if_icmp .ge 11, 3) := by decide +kernel
theorem dX2_paint_9 : decode cX2_paint 9 = .ok (.iload_n 3, 1) := by decide +kernel
theorem dX2_paint_10 : decode cX2_paint 10 = .ok (.aload_n 0, 1) := by decide +kernel
theorem dX2_paint_11 : decode cX2_paint 11 = .ok (.getfield 15, 3) := by decide +kernel
theorem dX2_paint_14 : decode cX2_paint 14 = .ok (.if_icmp .le 4, 3) := by decide +kernel
theorem dX2_paint_17 : decode cX2_paint 17 = .ok (.return_, 1) := by decide +kernel
theorem dX2_paint_18 : decode cX2_paint 18 = .ok (.iload_n 2, 1) := by decide +kernel
theorem dX2_paint_19 : decode cX2_paint 19 = .ok (.bipush 64, 2) := by decide +kernel
theorem dX2_paint_21 : decode cX2_paint 21 = .ok (.idiv, 1) := by decide +kernel
theorem dX2_paint_22 : decode cX2_paint 22 = .ok (.istore 5, 2) := by decide +kernel
theorem dX2_paint_24 : decode cX2_paint 24 = .ok (.iload 5, 2) := by decide +kernel
theorem dX2_paint_26 : decode cX2_paint 26 = .ok (.iload_n 3, 1) := by decide +kernel
theorem dX2_paint_27 : decode cX2_paint 27 = .ok (.iconst 1, 1) := by decide +kernel
theorem dX2_paint_28 : decode cX2_paint 28 = .ok (.isub, 1) := by decide +kernel
theorem dX2_paint_29 : decode cX2_paint 29 = .ok (.bipush 64, 2) := by decide +kernel
theorem dX2_paint_31 : decode cX2_paint 31 = .ok (.idiv, 1) := by decide +kernel
theorem dX2_paint_32 : decode cX2_paint 32 = .ok (.if_icmp .gt 111, 3) := by decide +kernel
theorem dX2_paint_35 : decode cX2_paint 35 = .ok (.aload_n 0, 1) := by decide +kernel
theorem dX2_paint_36 : decode cX2_paint 36 = .ok (.iload_n 1, 1) := by decide +kernel
theorem dX2_paint_37 : decode cX2_paint 37 = .ok (.iload 5, 2) := by decide +kernel
theorem dX2_paint_39 : decode cX2_paint 39 = .ok (.invokevirtual 33, 3) := by decide +kernel
theorem dX2_paint_42 : decode cX2_paint 42 = .ok (.istore 6, 2) := by decide +kernel
theorem dX2_paint_44 : decode cX2_paint 44 = .ok (.ldc2_w 41, 3) := by decide +kernel
theorem dX2_paint_47 : decode cX2_paint 47 = .ok (.iload_n 2, 1) := by decide +kernel
theorem dX2_paint_48 : decode cX2_paint 48 = .ok (.bipush 64, 2) := by decide +kernel
theorem dX2_paint_50 : decode cX2_paint 50 = .ok (.iload 5, 2) := by decide +kernel
theorem dX2_paint_52 : decode cX2_paint 52 = .ok (.imul, 1) := by decide +kernel
theorem dX2_paint_53 : decode cX2_paint 53 = .ok (.invokestatic 43, 3) := by decide +kernel
theorem dX2_paint_56 : decode cX2_paint 56 = .ok (.lshl, 1) := by decide +kernel
theorem dX2_paint_57 : decode cX2_paint 57 = .ok (.lstore 7, 2) := by decide +kernel
theorem dX2_paint_59 : decode cX2_paint 59 = .ok (.ldc2_w 41, 3) := by decide +kernel
theorem dX2_paint_62 : decode cX2_paint 62 = .ok (.iload_n 3, 1) := by decide +kernel
theorem dX2_paint_63 : decode cX2_paint 63 = .ok (.bipush 64, 2) := by decide +kernel
theorem dX2_paint_65 : decode cX2_paint 65 = .ok (.iload 5, 2) := by decide +kernel
theorem dX2_paint_67 : decode cX2_paint 67 = .ok (.imul, 1) := by decide +kernel
theorem dX2_paint_68 : decode cX2_paint 68 = .ok (.bipush 64, 2) := by decide +kernel
theorem dX2_paint_70 : decode cX2_paint 70 = .ok (.iadd, 1) := by decide +kernel
theorem dX2_paint_71 : decode cX2_paint 71 = .ok (.invokestatic 48, 3) := by decide +kernel
theorem dX2_paint_74 : decode cX2_paint 74 = .ok (.ineg, 1) := by decide +kernel
theorem dX2_paint_75 : decode cX2_paint 75 = .ok (.lushr, 1) := by decide +kernel
theorem dX2_paint_76 : decode cX2_paint 76 = .ok (.lstore 9, 2) := by decide +kernel
theorem dX2_paint_78 : decode cX2_paint 78 = .ok (.iload 6, 2) := by decide +kernel
theorem dX2_paint_80 : decode cX2_paint 80 = .ok (.ifCond .lt 57, 3) := by decide +kernel
theorem dX2_paint_83 : decode cX2_paint 83 = .ok (.iload 6, 2) := by decide +kernel
theorem dX2_paint_85 : decode cX2_paint 85 = .ok (.aload_n 0, 1) := by decide +kernel
theorem dX2_paint_86 : decode cX2_paint 86 = .ok (.getfield 22, 3) := by decide +kernel
theorem dX2_paint_89 : decode cX2_paint 89 = .ok (.arraylength, 1) := by decide +kernel
theorem dX2_paint_90 : decode cX2_paint 90 = .ok (.if_icmp .ge 47, 3) := by decide +kernel
theorem dX2_paint_93 : decode cX2_paint 93 = .ok (.aload_n 0, 1) := by decide +kernel
theorem dX2_paint_94 : decode cX2_paint 94 = .ok (.getfield 22, 3) := by decide +kernel
theorem dX2_paint_97 : decode cX2_paint 97 = .ok (.iload 6, 2) := by decide +kernel
theorem dX2_paint_99 : decode cX2_paint 99 = .ok (.laload, 1) := by decide +kernel
theorem dX2_paint_100 : decode cX2_paint 100 = .ok (.lload 7, 2) := by decide +kernel
theorem dX2_paint_102 : decode cX2_paint 102 = .ok (.lload 9, 2) := by decide +kernel
theorem dX2_paint_104 : decode cX2_paint 104 = .ok (.land, 1) := by decide +kernel
theorem dX2_paint_105 : decode cX2_paint 105 = .ok (.ldc2_w 41, 3) := by decide +kernel
theorem dX2_paint_108 : decode cX2_paint 108 = .ok (.lxor, 1) := by decide +kernel
theorem dX2_paint_109 : decode cX2_paint 109 = .ok (.land, 1) := by decide +kernel
theorem dX2_paint_110 : decode cX2_paint 110 = .ok (.lstore 11, 2) := by decide +kernel
theorem dX2_paint_112 : decode cX2_paint 112 = .ok (.aload_n 0, 1) := by decide +kernel
theorem dX2_paint_113 : decode cX2_paint 113 = .ok (.getfield 22, 3) := by decide +kernel
theorem dX2_paint_116 : decode cX2_paint 116 = .ok (.iload 6, 2) := by decide +kernel
theorem dX2_paint_118 : decode cX2_paint 118 = .ok (.iload 4, 2) := by decide +kernel
theorem dX2_paint_120 : decode cX2_paint 120 = .ok (.ifCond .eq 14, 3) := by decide +kernel
theorem dX2_paint_123 : decode cX2_paint 123 = .ok (.lload 11, 2) := by decide +kernel
theorem dX2_paint_125 : decode cX2_paint 125 = .ok (.lload 7, 2) := by decide +kernel
theorem dX2_paint_127 : decode cX2_paint 127 = .ok (.lload 9, 2) := by decide +kernel
theorem dX2_paint_129 : decode cX2_paint 129 = .ok (.land, 1) := by decide +kernel
theorem dX2_paint_130 : decode cX2_paint 130 = .ok (.lor, 1) := by decide +kernel
theorem dX2_paint_131 : decode cX2_paint 131 = .ok (.goto 5, 3) := by decide +kernel
theorem dX2_paint_134 : decode cX2_paint 134 = .ok (.lload 11, 2) := by decide +kernel
theorem dX2_paint_136 : decode cX2_paint 136 = .ok (.lastore, 1) := by decide +kernel
theorem dX2_paint_137 : decode cX2_paint 137 = .ok (.iinc 5 1, 3) := by decide +kernel
theorem dX2_paint_140 : decode cX2_paint 140 = .ok (.goto (-116), 3) := by decide +kernel
theorem dX2_paint_143 : decode cX2_paint 143 = .ok (.return_, 1) := by decide +kernel
set_option maxRecDepth 20000 in
theorem ggX2_isDark_X2_wordOf : GoodIn wsX2_isDark wsX2_wordOf := goodIn_ca (goodIn_r _ [6, 7, 8, 9, 10, 5, 11, 12, 13, 14, 15, 16, 17] (by decide +kernel) (by decide +kernel)) (goodIn_sub (fun _ h => List.mem_cons_of_mem _ (List.mem_append_right _ h)) (by decide +kernel))
set_option maxRecDepth 20000 in
theorem gX2_isDark_X2_wordOf : GoodIn wsX2_isDark (wsV RX2 37 RX2 yX2_wordOf wsX2_wordOf) := goodIn_app (goodIn_of _ (by decide +kernel)) ggX2_isDark_X2_wordOf
theorem dX2_isDark_0 : decode cX2_isDark 0 = .ok (.iload_n 2, 1) := by decide +kernel
theorem dX2_isDark_1 : decode cX2_isDark 1 = .ok (.ifCond .lt 33, 3) := by decide +kernel
theorem dX2_isDark_4 : decode cX2_isDark 4 = .ok (.iload_n 2, 1) := by decide +kernel
theorem dX2_isDark_5 : decode cX2_isDark 5 = .ok (.aload_n 0, 1) := by decide +kernel
theorem dX2_isDark_6 : decode cX2_isDark 6 = .ok (.getfield 15, 3) := by decide +kernel
theorem dX2_isDark_9 : decode cX2_isDark 9 = .ok (.if_icmp .ge 25, 3) := by decide +kernel
theorem dX2_isDark_12 : decode cX2_isDark 12 = .ok (.aload_n 0, 1) := by decide +kernel
theorem dX2_isDark_13 : decode cX2_isDark 13 = .ok (.iload_n 1, 1) := by decide +kernel
theorem dX2_isDark_14 : decode cX2_isDark 14 = .ok (.iload_n 2, 1) := by decide +kernel
theorem dX2_isDark_15 : decode cX2_isDark 15 = .ok (.bipush 64, 2) := by decide +kernel
theorem dX2_isDark_17 : decode cX2_isDark 17 = .ok (.idiv, 1) := by decide +kernel
theorem dX2_isDark_18 : decode cX2_isDark 18 = .ok (.invokevirtual 37, 3) := by decide +kernel
theorem dX2_isDark_21 : decode cX2_isDark 21 = .ok (.iload_n 2, 1) := by decide +kernel
theorem dX2_isDark_22 : decode cX2_isDark 22 = .ok (.lushr, 1) := by decide +kernel
theorem dX2_isDark_23 : decode cX2_isDark 23 = .ok (.lconst 1, 1) := by decide +kernel
theorem dX2_isDark_24 : decode cX2_isDark 24 = .ok (.land, 1) := by decide +kernel
theorem dX2_isDark_25 : decode cX2_isDark 25 = .ok (.lconst 0, 1) := by decide +kernel
theorem dX2_isDark_26 : decode cX2_isDark 26 = .ok (.lcmp, 1) := by decide +kernel
theorem dX2_isDark_27 : decode cX2_isDark 27 = .ok (.ifCond .eq 7, 3) := by decide +kernel
theorem dX2_isDark_30 : decode cX2_isDark 30 = .ok (.iconst 1, 1) := by decide +kernel
theorem dX2_isDark_31 : decode cX2_isDark 31 = .ok (.goto 4, 3) := by decide +kernel
theorem dX2_isDark_34 : decode cX2_isDark 34 = .ok (.iconst 0, 1) := by decide +kernel
theorem dX2_isDark_35 : decode cX2_isDark 35 = .ok (.ireturn, 1) := by decide +kernel
set_option maxRecDepth 20000 in
theorem ggX2_nextOf_X2_wordOf : GoodIn wsX2_nextOf wsX2_wordOf := goodIn_ca (goodIn_r _ [14, 15, 16, 17, 18, 13, 19, 20, 28, 29, 30, 31, 32] (by decide +kernel) (by decide +kernel)) (goodIn_sub (fun _ h => List.mem_cons_of_mem _ (List.mem_append_right _ h)) (by decide +kernel))
set_option maxRecDepth 20000 in
theorem gX2_nextOf_X2_wordOf : GoodIn wsX2_nextOf (wsV RX2 37 RX2 yX2_wordOf wsX2_wordOf) := goodIn_app (goodIn_of _ (by decide +kernel)) ggX2_nextOf_X2_wordOf
set_option maxRecDepth 20000 in
theorem ggX2_nextOf_J13_bitCount_95d88 : GoodIn wsX2_nextOf wsJ13_bitCount_95d88 := goodIn_r _ [24, 25, 26, 27] (by decide +kernel) (by decide +kernel)
set_option maxRecDepth 20000 in
theorem gX2_nextOf_J13_bitCount_95d88 : GoodIn wsX2_nextOf (va_wsS RX2 51 yJ13_bitCount_95d88 wsJ13_bitCount_95d88) := goodIn_app (goodIn_of _ (by decide +kernel)) ggX2_nextOf_J13_bitCount_95d88
theorem dX2_nextOf_0 : decode cX2_nextOf 0 = .ok (.iconst 0, 1) := by decide +kernel
theorem dX2_nextOf_1 : decode cX2_nextOf 1 = .ok (.iload_n 2, 1) := by decide +kernel
theorem dX2_nextOf_2 : decode cX2_nextOf 2 = .ok (.invokestatic 43, 3) := by decide +kernel
theorem dX2_nextOf_5 : decode cX2_nextOf 5 = .ok (.istore 4, 2) := by decide +kernel
theorem dX2_nextOf_7 : decode cX2_nextOf 7 = .ok (.iload 4, 2) := by decide +kernel
theorem dX2_nextOf_9 : decode cX2_nextOf 9 = .ok (.aload_n 0, 1) := by decide +kernel
theorem dX2_nextOf_10 : decode cX2_nextOf 10 = .ok (.getfield 15, 3) := by decide +kernel
theorem dX2_nextOf_13 : decode cX2_nextOf 13 = .ok (.if_icmp .ge 90, 3) := by decide +kernel
theorem dX2_nextOf_16 : decode cX2_nextOf 16 = .ok (.aload_n 0, 1) := by decide +kernel
theorem dX2_nextOf_17 : decode cX2_nextOf 17 = .ok (.iload_n 1, 1) := by decide +kernel
theorem dX2_nextOf_18 : decode cX2_nextOf 18 = .ok (.iload 4, 2) := by decide +kernel
theorem dX2_nextOf_20 : decode cX2_nextOf 20 = .ok (.bipush 64, 2) := by decide +kernel
theorem dX2_nextOf_22 : decode cX2_nextOf 22 = .ok (.idiv, 1) := by decide +kernel
theorem dX2_nextOf_23 : decode cX2_nextOf 23 = .ok (.invokevirtual 37, 3) := by decide +kernel
theorem dX2_nextOf_26 : decode cX2_nextOf 26 = .ok (.lstore 5, 2) := by decide +kernel
theorem dX2_nextOf_28 : decode cX2_nextOf 28 = .ok (.iload_n 3, 1) := by decide +kernel
theorem dX2_nextOf_29 : decode cX2_nextOf 29 = .ok (.ifCond .eq 8, 3) := by decide +kernel
theorem dX2_nextOf_32 : decode cX2_nextOf 32 = .ok (.lload 5, 2) := by decide +kernel
theorem dX2_nextOf_34 : decode cX2_nextOf 34 = .ok (.goto 9, 3) := by decide +kernel
theorem dX2_nextOf_37 : decode cX2_nextOf 37 = .ok (.lload 5, 2) := by decide +kernel
theorem dX2_nextOf_39 : decode cX2_nextOf 39 = .ok (.ldc2_w 41, 3) := by decide +kernel
theorem dX2_nextOf_42 : decode cX2_nextOf 42 = .ok (.lxor, 1) := by decide +kernel
theorem dX2_nextOf_43 : decode cX2_nextOf 43 = .ok (.ldc2_w 41, 3) := by decide +kernel
theorem dX2_nextOf_46 : decode cX2_nextOf 46 = .ok (.iload 4, 2) := by decide +kernel
theorem dX2_nextOf_48 : decode cX2_nextOf 48 = .ok (.lshl, 1) := by decide +kernel
theorem dX2_nextOf_49 : decode cX2_nextOf 49 = .ok (.land, 1) := by decide +kernel
theorem dX2_nextOf_50 : decode cX2_nextOf 50 = .ok (.lstore 7, 2) := by decide +kernel
theorem dX2_nextOf_52 : decode cX2_nextOf 52 = .ok (.lload 7, 2) := by decide +kernel
theorem dX2_nextOf_54 : decode cX2_nextOf 54 = .ok (.lconst 0, 1) := by decide +kernel
theorem dX2_nextOf_55 : decode cX2_nextOf 55 = .ok (.lcmp, 1) := by decide +kernel
theorem dX2_nextOf_56 : decode cX2_nextOf 56 = .ok (.ifCond .eq 35, 3) := by decide +kernel
theorem dX2_nextOf_59 : decode cX2_nextOf 59 = .ok (.lload 7, 2) := by decide +kernel
theorem dX2_nextOf_61 : decode cX2_nextOf 61 = .ok (.lload 7, 2) := by decide +kernel
theorem dX2_nextOf_63 : decode cX2_nextOf 63 = .ok (.lneg, 1) := by decide +kernel
theorem dX2_nextOf_64 : decode cX2_nextOf 64 = .ok (.land, 1) := by decide +kernel
theorem dX2_nextOf_65 : decode cX2_nextOf 65 = .ok (.lconst 1, 1) := by decide +kernel
theorem dX2_nextOf_66 : decode cX2_nextOf 66 = .ok (.lsub, 1) := by decide +kernel
theorem dX2_nextOf_67 : decode cX2_nextOf 67 = .ok (.invokestatic 51, 3) := by decide +kernel
theorem dX2_nextOf_70 : decode cX2_nextOf 70 = .ok (.istore 9, 2) := by decide +kernel
theorem dX2_nextOf_72 : decode cX2_nextOf 72 = .ok (.aload_n 0, 1) := by decide +kernel
theorem dX2_nextOf_73 : decode cX2_nextOf 73 = .ok (.getfield 15, 3) := by decide +kernel
theorem dX2_nextOf_76 : decode cX2_nextOf 76 = .ok (.iload 4, 2) := by decide +kernel
theorem dX2_nextOf_78 : decode cX2_nextOf 78 = .ok (.bipush 64, 2) := by decide +kernel
theorem dX2_nextOf_80 : decode cX2_nextOf 80 = .ok (.idiv, 1) := by decide +kernel
theorem dX2_nextOf_81 : decode cX2_nextOf 81 = .ok (.bipush 64, 2) := by decide +kernel
theorem dX2_nextOf_83 : decode cX2_nextOf 83 = .ok (.imul, 1) := by decide +kernel
theorem dX2_nextOf_84 : decode cX2_nextOf 84 = .ok (.iload 9, 2) := by decide +kernel
theorem dX2_nextOf_86 : decode cX2_nextOf 86 = .ok (.iadd, 1) := by decide +kernel
theorem dX2_nextOf_87 : decode cX2_nextOf 87 = .ok (.invokestatic 48, 3) := by decide +kernel
theorem dX2_nextOf_90 : decode cX2_nextOf 90 = .ok (.ireturn, 1) := by decide +kernel
theorem dX2_nextOf_91 : decode cX2_nextOf 91 = .ok (.iload 4, 2) := by decide +kernel
theorem dX2_nextOf_93 : decode cX2_nextOf 93 = .ok (.bipush 63, 2) := by decide +kernel
theorem dX2_nextOf_95 : decode cX2_nextOf 95 = .ok (.ior, 1) := by decide +kernel
theorem dX2_nextOf_96 : decode cX2_nextOf 96 = .ok (.iconst 1, 1) := by decide +kernel
theorem dX2_nextOf_97 : decode cX2_nextOf 97 = .ok (.iadd, 1) := by decide +kernel
theorem dX2_nextOf_98 : decode cX2_nextOf 98 = .ok (.istore 4, 2) := by decide +kernel
theorem dX2_nextOf_100 : decode cX2_nextOf 100 = .ok (.goto (-93), 3) := by decide +kernel
theorem dX2_nextOf_103 : decode cX2_nextOf 103 = .ok (.aload_n 0, 1) := by decide +kernel
theorem dX2_nextOf_104 : decode cX2_nextOf 104 = .ok (.getfield 15, 3) := by decide +kernel
theorem dX2_nextOf_107 : decode cX2_nextOf 107 = .ok (.ireturn, 1) := by decide +kernel
set_option maxRecDepth 20000 in
theorem ggX2_changeTo_X2_isDark : GoodIn wsX2_changeTo wsX2_isDark := goodIn_ca (goodIn_r _ [5, 6, 7, 8, 9, 4, 10, 11, 12, 13, 14, 15, 16, 36, 37, 38, 39, 40] (by decide +kernel) (by decide +kernel)) (goodIn_sub (fun _ h => List.mem_cons_of_mem _ (List.mem_append_right _ h)) (by decide +kernel))
set_option maxRecDepth 20000 in
theorem gX2_changeTo_X2_isDark : GoodIn wsX2_changeTo (wsV RX2 57 RX2 yX2_isDark wsX2_isDark) := goodIn_app (goodIn_of _ (by decide +kernel)) ggX2_changeTo_X2_isDark
set_option maxRecDepth 20000 in
theorem ggX2_changeTo_X2_nextOf : GoodIn wsX2_changeTo wsX2_nextOf := goodIn_ca (goodIn_r _ [20, 21, 22, 23, 24, 6, 25, 26, 27, 28, 7, 8, 9, 4, 10, 11, 12, 13, 14, 15, 16, 29, 30, 31, 32, 33, 34, 35, 36, 37, 38, 39, 40] (by decide +kernel) (by decide +kernel)) (goodIn_sub (fun _ h => List.mem_cons_of_mem _ (List.mem_append_right _ h)) (by decide +kernel))
set_option maxRecDepth 20000 in
theorem gX2_changeTo_X2_nextOf : GoodIn wsX2_changeTo (wsV RX2 61 RX2 yX2_nextOf wsX2_nextOf) := goodIn_app (goodIn_of _ (by decide +kernel)) ggX2_changeTo_X2_nextOf
theorem dX2_changeTo_0 : decode cX2_changeTo 0 = .ok (.aload_n 0, 1) := by decide +kernel
theorem dX2_changeTo_1 : decode cX2_changeTo 1 = .ok (.iload_n 1, 1) := by decide +kernel
theorem dX2_changeTo_2 : decode cX2_changeTo 2 = .ok (.iload_n 2, 1) := by decide +kernel
theorem dX2_changeTo_3 : decode cX2_changeTo 3 = .ok (.iconst 1, 1) := by decide +kernel
theorem dX2_changeTo_4 : decode cX2_changeTo 4 = .ok (.isub, 1) := by decide +kernel
theorem dX2_changeTo_5 : decode cX2_changeTo 5 = .ok (.invokevirtual 57, 3) := by decide +kernel
theorem dX2_changeTo_8 : decode cX2_changeTo 8 = .ok (.iload_n 3, 1) := by decide +kernel
theorem dX2_changeTo_9 : decode cX2_changeTo 9 = .ok (.if_icmp .ne 7, 3) := by decide +kernel
theorem dX2_changeTo_12 : decode cX2_changeTo 12 = .ok (.iconst 1, 1) := by decide +kernel
theorem dX2_changeTo_13 : decode cX2_changeTo 13 = .ok (.goto 4, 3) := by decide +kernel
theorem dX2_changeTo_16 : decode cX2_changeTo 16 = .ok (.iconst 0, 1) := by decide +kernel
theorem dX2_changeTo_17 : decode cX2_changeTo 17 = .ok (.istore 4, 2) := by decide +kernel
theorem dX2_changeTo_19 : decode cX2_changeTo 19 = .ok (.aload_n 0, 1) := by decide +kernel
theorem dX2_changeTo_20 : decode cX2_changeTo 20 = .ok (.iload_n 1, 1) := by decide +kernel
theorem dX2_changeTo_21 : decode cX2_changeTo 21 = .ok (.iload 4, 2) := by decide +kernel
theorem dX2_changeTo_23 : decode cX2_changeTo 23 = .ok (.ifCond .eq 21, 3) := by decide +kernel
theorem dX2_changeTo_26 : decode cX2_changeTo 26 = .ok (.aload_n 0, 1) := by decide +kernel
theorem dX2_changeTo_27 : decode cX2_changeTo 27 = .ok (.iload_n 1, 1) := by decide +kernel
theorem dX2_changeTo_28 : decode cX2_changeTo 28 = .ok (.iload_n 2, 1) := by decide +kernel
theorem dX2_changeTo_29 : decode cX2_changeTo 29 = .ok (.iload_n 3, 1) := by decide +kernel
theorem dX2_changeTo_30 : decode cX2_changeTo 30 = .ok (.ifCond .ne 7, 3) := by decide +kernel
theorem dX2_changeTo_33 : decode cX2_changeTo 33 = .ok (.iconst 1, 1) := by decide +kernel
theorem dX2_changeTo_34 : decode cX2_changeTo 34 = .ok (.goto 4, 3) := by decide +kernel
theorem dX2_changeTo_37 : decode cX2_changeTo 37 = .ok (.iconst 0, 1) := by decide +kernel
theorem dX2_changeTo_38 : decode cX2_changeTo 38 = .ok (.invokevirtual 61, 3) := by decide +kernel
theorem dX2_changeTo_41 : decode cX2_changeTo 41 = .ok (.goto 4, 3) := by decide +kernel
theorem dX2_changeTo_44 : decode cX2_changeTo 44 = .ok (.iload_n 2, 1) := by decide +kernel
theorem dX2_changeTo_45 : decode cX2_changeTo 45 = .ok (.iload_n 3, 1) := by decide +kernel
theorem dX2_changeTo_46 : decode cX2_changeTo 46 = .ok (.invokevirtual 61, 3) := by decide +kernel
theorem dX2_changeTo_49 : decode cX2_changeTo 49 = .ok (.ireturn, 1) := by decide +kernel
set_option maxRecDepth 20000 in
theorem ggX2_countRuns_X2_nextOf : GoodIn wsX2_countRuns wsX2_nextOf := goodIn_ca (goodIn_r _ [6, 7, 8, 9, 10, 1, 11, 12, 13, 14, 15, 16, 17, 5, 18, 19, 20, 21, 22, 23, 24, 25, 26, 27, 28, 29, 30, 31, 32, 33, 34, 35, 36] (by decide +kernel) (by decide +kernel)) (goodIn_sub (fun _ h => List.mem_cons_of_mem _ (List.mem_append_right _ h)) (by decide +kernel))
set_option maxRecDepth 20000 in
theorem gX2_countRuns_X2_nextOf : GoodIn wsX2_countRuns (wsV RX2 61 RX2 yX2_nextOf wsX2_nextOf) := goodIn_app (goodIn_of _ (by decide +kernel)) ggX2_countRuns_X2_nextOf
theorem dX2_countRuns_0 : decode cX2_countRuns 0 = .ok (.iconst 0, 1) := by decide +kernel
theorem dX2_countRuns_1 : decode cX2_countRuns 1 = .ok (.istore_n 2, 1) := by decide +kernel
theorem dX2_countRuns_2 : decode cX2_countRuns 2 = .ok (.iconst 0, 1) := by decide +kernel
theorem dX2_countRuns_3 : decode cX2_countRuns 3 = .ok (.istore_n 3, 1) := by decide +kernel
theorem dX2_countRuns_4 : decode cX2_countRuns 4 = .ok (.iconst 0, 1) := by decide +kernel
theorem dX2_countRuns_5 : decode cX2_countRuns 5 = .ok (.istore 4, 2) := by decide +kernel
theorem dX2_countRuns_7 : decode cX2_countRuns 7 = .ok (.iload 4, 2) := by decide +kernel
theorem dX2_countRuns_9 : decode cX2_countRuns 9 = .ok (.aload_n 0, 1) := by decide +kernel
theorem dX2_countRuns_10 : decode cX2_countRuns 10 = .ok (.getfield 15, 3) := by decide +kernel
theorem dX2_countRuns_13 : decode cX2_countRuns 13 = .ok (.if_icmp .ge 45, 3) := by decide +kernel
theorem dX2_countRuns_16 : decode cX2_countRuns 16 = .ok (.iload_n 2, 1) := by decide +kernel
theorem dX2_countRuns_17 : decode cX2_countRuns 17 = .ok (.aload_n 0, 1) := by decide +kernel
theorem dX2_countRuns_18 : decode cX2_countRuns 18 = .ok (.getfield 15, 3) := by decide +kernel
theorem dX2_countRuns_21 : decode cX2_countRuns 21 = .ok (.if_icmp .gt 37, 3) := by decide +kernel
theorem dX2_countRuns_24 : decode cX2_countRuns 24 = .ok (.aload_n 0, 1) := by decide +kernel
theorem dX2_countRuns_25 : decode cX2_countRuns 25 = .ok (.iload_n 1, 1) := by decide +kernel
theorem dX2_countRuns_26 : decode cX2_countRuns 26 = .ok (.iload 4, 2) := by decide +kernel
theorem dX2_countRuns_28 : decode cX2_countRuns 28 = .ok (.iload_n 3, 1) := by decide +kernel
theorem dX2_countRuns_29 : decode cX2_countRuns 29 = .ok (.ifCond .ne 7, 3) := by decide +kernel
theorem dX2_countRuns_32 : decode cX2_countRuns 32 = .ok (.iconst 1, 1) := by decide +kernel
theorem dX2_countRuns_33 : decode cX2_countRuns 33 = .ok (.goto 4, 3) := by decide +kernel
theorem dX2_countRuns_36 : decode cX2_countRuns 36 = .ok (.iconst 0, 1) := by decide +kernel
theorem dX2_countRuns_37 : decode cX2_countRuns 37 = .ok (.invokevirtual 61, 3) := by decide +kernel
theorem dX2_countRuns_40 : decode cX2_countRuns 40 = .ok (.istore 4, 2) := by decide +kernel
theorem dX2_countRuns_42 : decode cX2_countRuns 42 = .ok (.iload_n 3, 1) := by decide +kernel
theorem dX2_countRuns_43 : decode cX2_countRuns 43 = .ok (.ifCond .ne 7, 3) := by decide +kernel
theorem dX2_countRuns_46 : decode cX2_countRuns 46 = .ok (.iconst 1, 1) := by decide +kernel
theorem dX2_countRuns_47 : decode cX2_countRuns 47 = .ok (.goto 4, 3) := by decide +kernel
theorem dX2_countRuns_50 : decode cX2_countRuns 50 = .ok (.iconst 0, 1) := by decide +kernel
theorem dX2_countRuns_51 : decode cX2_countRuns 51 = .ok (.istore_n 3, 1) := by decide +kernel
theorem dX2_countRuns_52 : decode cX2_countRuns 52 = .ok (.iinc 2 1, 3) := by decide +kernel
theorem dX2_countRuns_55 : decode cX2_countRuns 55 = .ok (.goto (-48), 3) := by decide +kernel
theorem dX2_countRuns_58 : decode cX2_countRuns 58 = .ok (.iload_n 2, 1) := by decide +kernel
theorem dX2_countRuns_59 : decode cX2_countRuns 59 = .ok (.ireturn, 1) := by decide +kernel
set_option maxRecDepth 20000 in
theorem ggX2_lengthOfRun_X2_nextOf : GoodIn wsX2_lengthOfRun wsX2_nextOf := goodIn_ca (goodIn_r _ [6, 7, 8, 9, 10, 1, 11, 12, 13, 14, 15, 16, 17, 5, 18, 19, 20, 21, 22, 23, 24, 25, 26, 27, 28, 29, 30, 31, 32, 33, 34, 35, 36] (by decide +kernel) (by decide +kernel)) (goodIn_sub (fun _ h => List.mem_cons_of_mem _ (List.mem_append_right _ h)) (by decide +kernel))
set_option maxRecDepth 20000 in
theorem gX2_lengthOfRun_X2_nextOf : GoodIn wsX2_lengthOfRun (wsV RX2 61 RX2 yX2_nextOf wsX2_nextOf) := goodIn_app (goodIn_of _ (by decide +kernel)) ggX2_lengthOfRun_X2_nextOf
theorem dX2_lengthOfRun_0 : decode cX2_lengthOfRun 0 = .ok (.iconst 0, 1) := by decide +kernel
theorem dX2_lengthOfRun_1 : decode cX2_lengthOfRun 1 = .ok (.istore_n 3, 1) := by decide +kernel
theorem dX2_lengthOfRun_2 : decode cX2_lengthOfRun 2 = .ok (.iconst 0, 1) := by decide +kernel
theorem dX2_lengthOfRun_3 : decode cX2_lengthOfRun 3 = .ok (.istore 4, 2) := by decide +kernel
theorem dX2_lengthOfRun_5 : decode cX2_lengthOfRun 5 = .ok (.iconst 0, 1) := by decide +kernel
theorem dX2_lengthOfRun_6 : decode cX2_lengthOfRun 6 = .ok (.istore 5, 2) := by decide +kernel
theorem dX2_lengthOfRun_8 : decode cX2_lengthOfRun 8 = .ok (.iload_n 3, 1) := by decide +kernel
theorem dX2_lengthOfRun_9 : decode cX2_lengthOfRun 9 = .ok (.aload_n 0, 1) := by decide +kernel
theorem dX2_lengthOfRun_10 : decode cX2_lengthOfRun 10 = .ok (.getfield 15, 3) := by decide +kernel
theorem dX2_lengthOfRun_13 : decode cX2_lengthOfRun 13 = .ok (.if_icmp .ge 62, 3) := by decide +kernel
theorem dX2_lengthOfRun_16 : decode cX2_lengthOfRun 16 = .ok (.iload 5, 2) := by decide +kernel
theorem dX2_lengthOfRun_18 : decode cX2_lengthOfRun 18 = .ok (.aload_n 0, 1) := by decide +kernel
theorem dX2_lengthOfRun_19 : decode cX2_lengthOfRun 19 = .ok (.getfield 15, 3) := by decide +kernel
theorem dX2_lengthOfRun_22 : decode cX2_lengthOfRun 22 = .ok (.if_icmp .gt 53, 3) := by decide +kernel
theorem dX2_lengthOfRun_25 : decode cX2_lengthOfRun 25 = .ok (.aload_n 0, 1) := by decide +kernel
theorem dX2_lengthOfRun_26 : decode cX2_lengthOfRun 26 = .ok (.iload_n 1, 1) := by decide +kernel
theorem dX2_lengthOfRun_27 : decode cX2_lengthOfRun 27 = .ok (.iload_n 3, 1) := by decide +kernel
theorem dX2_lengthOfRun_28 : decode cX2_lengthOfRun 28 = .ok (.iload 4, 2) := by decide +kernel
theorem dX2_lengthOfRun_30 : decode cX2_lengthOfRun 30 = .ok (.ifCond .ne 7, 3) := by decide +kernel
theorem dX2_lengthOfRun_33 : decode cX2_lengthOfRun 33 = .ok (.iconst 1, 1) := by decide +kernel
theorem dX2_lengthOfRun_34 : decode cX2_lengthOfRun 34 = .ok (.goto 4, 3) := by decide +kernel
theorem dX2_lengthOfRun_37 : decode cX2_lengthOfRun 37 = .ok (.iconst 0, 1) := by decide +kernel
theorem dX2_lengthOfRun_38 : decode cX2_lengthOfRun 38 = .ok (.invokevirtual 61, 3) := by decide +kernel
theorem dX2_lengthOfRun_41 : decode cX2_lengthOfRun 41 = .ok (.istore 6, 2) := by decide +kernel
theorem dX2_lengthOfRun_43 : decode cX2_lengthOfRun 43 = .ok (.iload 5, 2) := by decide +kernel
theorem dX2_lengthOfRun_45 : decode cX2_lengthOfRun 45 = .ok (.iload_n 2, 1) := by decide +kernel
theorem dX2_lengthOfRun_46 : decode cX2_lengthOfRun 46 = .ok (.if_icmp .ne 8, 3) := by decide +kernel
theorem dX2_lengthOfRun_49 : decode cX2_lengthOfRun 49 = .ok (.iload 6, 2) := by decide +kernel
theorem dX2_lengthOfRun_51 : decode cX2_lengthOfRun 51 = .ok (.iload_n 3, 1) := by decide +kernel
theorem dX2_lengthOfRun_52 : decode cX2_lengthOfRun 52 = .ok (.isub, 1) := by decide +kernel
theorem dX2_lengthOfRun_53 : decode cX2_lengthOfRun 53 = .ok (.ireturn, 1) := by decide +kernel
theorem dX2_lengthOfRun_54 : decode cX2_lengthOfRun 54 = .ok (.iload 6, 2) := by decide +kernel
theorem dX2_lengthOfRun_56 : decode cX2_lengthOfRun 56 = .ok (.istore_n 3, 1) := by decide +kernel
theorem dX2_lengthOfRun_57 : decode cX2_lengthOfRun 57 = .ok (.iload 4, 2) := by decide +kernel
theorem dX2_lengthOfRun_59 : decode cX2_lengthOfRun 59 = .ok (.ifCond .ne 7, 3) := by decide +kernel
theorem dX2_lengthOfRun_62 : decode cX2_lengthOfRun 62 = .ok (.iconst 1, 1) := by decide +kernel
theorem dX2_lengthOfRun_63 : decode cX2_lengthOfRun 63 = .ok (.goto 4, 3) := by decide +kernel
theorem dX2_lengthOfRun_66 : decode cX2_lengthOfRun 66 = .ok (.iconst 0, 1) := by decide +kernel
theorem dX2_lengthOfRun_67 : decode cX2_lengthOfRun 67 = .ok (.istore 4, 2) := by decide +kernel
theorem dX2_lengthOfRun_69 : decode cX2_lengthOfRun 69 = .ok (.iinc 5 1, 3) := by decide +kernel
theorem dX2_lengthOfRun_72 : decode cX2_lengthOfRun 72 = .ok (.goto (-64), 3) := by decide +kernel
theorem dX2_lengthOfRun_75 : decode cX2_lengthOfRun 75 = .ok (.bipush (-2), 2) := by decide +kernel
theorem dX2_lengthOfRun_77 : decode cX2_lengthOfRun 77 = .ok (.ireturn, 1) := by decide +kernel
theorem dX2_indexOf_0 : decode cX2_indexOf 0 = .ok (.iload_n 1, 1) := by decide +kernel
theorem dX2_indexOf_1 : decode cX2_indexOf 1 = .ok (.ifCond .lt 25, 3) := by decide +kernel
theorem dX2_indexOf_4 : decode cX2_indexOf 4 = .ok (.iload_n 1, 1) := by decide +kernel
theorem dX2_indexOf_5 : decode cX2_indexOf 5 = .ok (.bipush 24, 2) := by decide +kernel
theorem dX2_indexOf_7 : decode cX2_indexOf 7 = .ok (.if_icmp .ge 19, 3) := by decide +kernel
theorem dX2_indexOf_10 : decode cX2_indexOf 10 = .ok (.iload_n 2, 1) := by decide +kernel
theorem dX2_indexOf_11 : decode cX2_indexOf 11 = .ok (.ifCond .lt 15, 3) := by decide +kernel
theorem dX2_indexOf_14 : decode cX2_indexOf 14 = .ok (.iload_n 2, 1) := by decide +kernel
theorem dX2_indexOf_15 : decode cX2_indexOf 15 = .ok (.aload_n 0, 1) := by decide +kernel
theorem dX2_indexOf_16 : decode cX2_indexOf 16 = .ok (.getfield 19, 3) := by decide +kernel
theorem dX2_indexOf_19 : decode cX2_indexOf 19 = .ok (.if_icmp .ge 7, 3) := by decide +kernel
theorem dX2_indexOf_22 : decode cX2_indexOf 22 = .ok (.iconst 1, 1) := by decide +kernel
theorem dX2_indexOf_23 : decode cX2_indexOf 23 = .ok (.goto 4, 3) := by decide +kernel
theorem dX2_indexOf_26 : decode cX2_indexOf 26 = .ok (.iconst 0, 1) := by decide +kernel
theorem dX2_indexOf_27 : decode cX2_indexOf 27 = .ok (.istore_n 3, 1) := by decide +kernel
theorem dX2_indexOf_28 : decode cX2_indexOf 28 = .ok (.iload_n 3, 1) := by decide +kernel
theorem dX2_indexOf_29 : decode cX2_indexOf 29 = .ok (.ifCond .eq 14, 3) := by decide +kernel
theorem dX2_indexOf_32 : decode cX2_indexOf 32 = .ok (.iload_n 1, 1) := by decide +kernel
theorem dX2_indexOf_33 : decode cX2_indexOf 33 = .ok (.aload_n 0, 1) := by decide +kernel
theorem dX2_indexOf_34 : decode cX2_indexOf 34 = .ok (.getfield 19, 3) := by decide +kernel
theorem dX2_indexOf_37 : decode cX2_indexOf 37 = .ok (.imul, 1) := by decide +kernel
theorem dX2_indexOf_38 : decode cX2_indexOf 38 = .ok (.iload_n 2, 1) := by decide +kernel
theorem dX2_indexOf_39 : decode cX2_indexOf 39 = .ok (.iadd, 1) := by decide +kernel
theorem dX2_indexOf_40 : decode cX2_indexOf 40 = .ok (.goto 5, 3) := by decide +kernel
theorem dX2_indexOf_43 : decode cX2_indexOf 43 = .ok (.bipush (-2), 2) := by decide +kernel
theorem dX2_indexOf_45 : decode cX2_indexOf 45 = .ok (.ireturn, 1) := by decide +kernel
set_option maxRecDepth 20000 in
theorem ggX2_wordOf_X2_indexOf : GoodIn wsX2_wordOf wsX2_indexOf := goodIn_r _ [6, 7, 8, 9, 10, 11, 12] (by decide +kernel) (by decide +kernel)
set_option maxRecDepth 20000 in
theorem gX2_wordOf_X2_indexOf : GoodIn wsX2_wordOf (wsV RX2 33 RX2 yX2_indexOf wsX2_indexOf) := goodIn_app (goodIn_of _ (by decide +kernel)) ggX2_wordOf_X2_indexOf
theorem dX2_wordOf_0 : decode cX2_wordOf 0 = .ok (.aload_n 0, 1) := by decide +kernel
theorem dX2_wordOf_1 : decode cX2_wordOf 1 = .ok (.iload_n 1, 1) := by decide +kernel
theorem dX2_wordOf_2 : decode cX2_wordOf 2 = .ok (.iload_n 2, 1) := by decide +kernel
theorem dX2_wordOf_3 : decode cX2_wordOf 3 = .ok (.invokevirtual 33, 3) := by decide +kernel
theorem dX2_wordOf_6 : decode cX2_wordOf 6 = .ok (.istore_n 3, 1) := by decide +kernel
theorem dX2_wordOf_7 : decode cX2_wordOf 7 = .ok (.iload_n 3, 1) := by decide +kernel
theorem dX2_wordOf_8 : decode cX2_wordOf 8 = .ok (.ifCond .lt 21, 3) := by decide +kernel
theorem dX2_wordOf_11 : decode cX2_wordOf 11 = .ok (.iload_n 3, 1) := by decide +kernel
theorem dX2_wordOf_12 : decode cX2_wordOf 12 = .ok (.aload_n 0, 1) := by decide +kernel
theorem dX2_wordOf_13 : decode cX2_wordOf 13 = .ok (.getfield 22, 3) := by decide +kernel
theorem dX2_wordOf_16 : decode cX2_wordOf 16 = .ok (.arraylength, 1) := by decide +kernel
theorem dX2_wordOf_17 : decode cX2_wordOf 17 = .ok (.if_icmp .ge 12, 3) := by decide +kernel
theorem dX2_wordOf_20 : decode cX2_wordOf 20 = .ok (.aload_n 0, 1) := by decide +kernel
theorem dX2_wordOf_21 : decode cX2_wordOf 21 = .ok (.getfield 22, 3) := by decide +kernel
theorem dX2_wordOf_24 : decode cX2_wordOf 24 = .ok (.iload_n 3, 1) := by decide +kernel
theorem dX2_wordOf_25 : decode cX2_wordOf 25 = .ok (.laload, 1) := by decide +kernel
theorem dX2_wordOf_26 : decode cX2_wordOf 26 = .ok (.goto 4, 3) := by decide +kernel
theorem dX2_wordOf_29 : decode cX2_wordOf 29 = .ok (.lconst 0, 1) := by decide +kernel
theorem dX2_wordOf_30 : decode cX2_wordOf 30 = .ok (.lreturn, 1) := by decide +kernel
end
section
def hasMk (kd : Int) (mk : Bool) : Bool := decide (kd = 1) || (decide (kd = 0) && mk)
theorem kn_X5_hasMarks : zKn yX5_hasMarks wsX5_hasMarks cX5_hasMarks 1 (some .boolean) 0 := ⟨⟨_, rfl⟩, by decide +kernel, by decide +kernel, by decide +kernel⟩
set_option maxHeartbeats 400000 in
set_option maxRecDepth 100000 in
theorem c_X5_hasMarks (l : Launch) (D : va_G) (cy : Nat → ClassId) (tw : Nat → Nat) (a : Nat → Nat) (kd : Int) (co : Int) (mk : Bool) (al : Bool) (dz : Bool) (rd : Bool) (rw : Int) (wo : Nat → BitVec 64) (sa : Nat → Int) (sz : Int) (ps : Int) (bt : Nat → Int) (ou : Nat → Int) (bi : Int) (dm : Int) (pl : Bool) (re : Int) (cu : Bool)   (hk : 0 ≤ kd ∧ kd ≤ 2) : zMet l yX5_hasMarks wsX5_hasMarks { frames := 0, cells := 0, slots := 0, locals := 0 } D (zT cy) tw (CW cy a kd co mk al dz rd rw wo sa sz ps bt ou bi dm pl re cu) [.ref (a 1)] 0 0 (S := Unit) (fun _ => some (vI (b2i (hasMk kd mk)))) (fun _ => CW cy a kd co mk al dz rd rw wo sa sz ps bt ou bi dm pl re cu) (fun _ => True) := by
  refine z_met (cc := cX5_hasMarks) (nL := 1) (ret := some .boolean) (by decide +kernel) rfl (Nat.le_of_ble_eq_true rfl) (lv := [(0, .ref (a 1))]) rfl ?_
  intro V p_ e_ s_ m_ args_ below_ meth_ c_ A_ C hmn
  have hinX5 : ∀ w ∈ u_ws RX5 TX5 5, w ∈ wsX5_hasMarks := by decide +kernel
  have k0 : Cond.fieldLink RX5 9 "FaxFilter$Settings" "kind" "I" ∈ wsX5_hasMarks := List.mem_of_getElem? (i := 1) rfl
  have k1 : Cond.fieldLink RX5 15 "FaxFilter$Settings" "marks" "Z" ∈ wsX5_hasMarks := List.mem_of_getElem? (i := 2) rfl
  refine z_aload_n C dX5_hasMarks_0 0 rfl ?_
  refine z_get C hinX5 (ci := 7) rfl 1 rfl 0 (by decide) k0 rfl (v := vI kd) rfl dX5_hasMarks_1 ?_
  refine z_iconst C (z := 1) dX5_hasMarks_4 ?_
  refine z_icmp_eq C (by omega) (by decide) (tgt := 22) dX5_hasMarks_5 (by decide) (fun c1 => ?_) (fun c1 => ?_)
  · refine z_iconst C (z := 1) dX5_hasMarks_22 ?_
    refine z_goto C (tgt := 27) dX5_hasMarks_23 (by decide) ?_
    refine z_zret (b := true) C dX5_hasMarks_27 () ?_ ?_ ?_ (by decide) (by decide)
    · simp_all [hasMk, b2i]
    · exact trivial
    · exact rfl
  · refine z_aload_n C dX5_hasMarks_8 0 rfl ?_
    refine z_get C hinX5 (ci := 7) rfl 1 rfl 0 (by decide) k0 rfl (v := vI kd) rfl dX5_hasMarks_9 ?_
    refine z_if_ne C (by omega) (tgt := 26) dX5_hasMarks_12 (by decide) (fun c2 => ?_) (fun c2 => ?_)
    · refine z_iconst C (z := 0) dX5_hasMarks_26 ?_
      refine z_zret (b := false) C dX5_hasMarks_27 () ?_ ?_ ?_ (by decide) (by decide)
      · simp_all [hasMk, b2i]
      · exact trivial
      · exact rfl
    · refine z_aload_n C dX5_hasMarks_15 0 rfl ?_
      refine z_get C hinX5 (ci := 7) rfl 1 rfl 1 (by decide) k1 rfl (v := vI (b2i mk)) rfl dX5_hasMarks_16 ?_
      refine z_ifz C (tgt := 26) dX5_hasMarks_19 (by decide) (fun c3 => ?_) (fun c3 => ?_)
      · refine z_iconst C (z := 0) dX5_hasMarks_26 ?_
        refine z_zret (b := false) C dX5_hasMarks_27 () ?_ ?_ ?_ (by decide) (by decide)
        · simp_all [hasMk, b2i]
        · exact trivial
        · exact rfl
      · refine z_iconst C (z := 1) dX5_hasMarks_22 ?_
        refine z_goto C (tgt := 27) dX5_hasMarks_23 (by decide) ?_
        refine z_zret (b := true) C dX5_hasMarks_27 () ?_ ?_ ?_ (by decide) (by decide)
        · simp_all [hasMk, b2i]
        · exact trivial
        · exact rfl
def byC (bt : Nat → Int) (sz i : Int) : Int := if 0 ≤ i ∧ i < sz then bt i.toNat % 256 else 0
def bitC (bt : Nat → Int) (sz i : Int) : Int := byC bt sz (i / 8) / 2 ^ (7 - i % 8).toNat % 2 ^ 1
theorem sb_mod8 (z : Int) : sb z % 2 ^ 8 = z % 256 := sb_mod z
theorem byC_rg (bt : Nat → Int) (sz i : Int) : 0 ≤ byC bt sz i ∧ byC bt sz i < 256 := by unfold byC; split <;> omega
theorem kn_X0_empty : zKn yX0_empty wsX0_empty cX0_empty 1 (none) 0 := ⟨⟨_, rfl⟩, by decide +kernel, by decide +kernel, by decide +kernel⟩
set_option maxHeartbeats 400000 in
set_option maxRecDepth 100000 in
theorem c_X0_empty (l : Launch) (D : va_G) (cy : Nat → ClassId) (tw : Nat → Nat) (a : Nat → Nat) (kd : Int) (co : Int) (mk : Bool) (al : Bool) (dz : Bool) (rd : Bool) (rw : Int) (wo : Nat → BitVec 64) (sa : Nat → Int) (sz : Int) (ps : Int) (bt : Nat → Int) (ou : Nat → Int) (bi : Int) (dm : Int) (pl : Bool) (re : Int) (cu : Bool)    : zMet l yX0_empty wsX0_empty { frames := 0, cells := 0, slots := 0, locals := 0 } D (zT cy) tw (CW cy a kd co mk al dz rd rw wo sa sz ps bt ou bi dm pl re cu) [.ref (a 5)] 0 0 (S := Unit) (fun _ => none) (fun _ => CW cy a kd co mk al dz rd rw wo sa 0 ps bt ou bi dm pl re cu) (fun _ => True) := by
  refine z_met (cc := cX0_empty) (nL := 1) (ret := none) (by decide +kernel) rfl (Nat.le_of_ble_eq_true rfl) (lv := [(0, .ref (a 5))]) rfl ?_
  intro V p_ e_ s_ m_ args_ below_ meth_ c_ A_ C hmn
  have hinX0 : ∀ w ∈ u_ws RX0 TX0 3, w ∈ wsX0_empty := by decide +kernel
  have k0 : Cond.fieldLink RX0 15 "FaxFilter$BitsIn" "size" "I" ∈ wsX0_empty := List.mem_of_getElem? (i := 1) rfl
  refine z_aload_n C dX0_empty_0 0 rfl ?_
  refine z_iconst C (z := 0) dX0_empty_1 ?_
  refine z_put C hinX0 tyX0 tyX0_ok nmX0 (ci := 2) rfl 5 rfl 0 (by decide) k0 rfl rfl rfl rfl (Nat.le_of_ble_eq_true rfl) dX0_empty_2 (ws' := CW cy a kd co mk al dz rd rw wo sa 0 ps bt ou bi dm pl re cu) rfl ?_
  refine z_vret C dX0_empty_5 () ?_ ?_ ?_ (by decide) (by decide)
  · exact rfl
  · exact trivial
  · exact rfl
theorem kn_X0_restart : zKn yX0_restart wsX0_restart cX0_restart 1 (none) 0 := ⟨⟨_, rfl⟩, by decide +kernel, by decide +kernel, by decide +kernel⟩
set_option maxHeartbeats 400000 in
set_option maxRecDepth 100000 in
theorem c_X0_restart (l : Launch) (D : va_G) (cy : Nat → ClassId) (tw : Nat → Nat) (a : Nat → Nat) (kd : Int) (co : Int) (mk : Bool) (al : Bool) (dz : Bool) (rd : Bool) (rw : Int) (wo : Nat → BitVec 64) (sa : Nat → Int) (sz : Int) (ps : Int) (bt : Nat → Int) (ou : Nat → Int) (bi : Int) (dm : Int) (pl : Bool) (re : Int) (cu : Bool)    : zMet l yX0_restart wsX0_restart { frames := 0, cells := 0, slots := 0, locals := 0 } D (zT cy) tw (CW cy a kd co mk al dz rd rw wo sa sz ps bt ou bi dm pl re cu) [.ref (a 5)] 0 0 (S := Unit) (fun _ => none) (fun _ => CW cy a kd co mk al dz rd rw wo sa sz 0 bt ou bi dm pl re cu) (fun _ => True) := by
  refine z_met (cc := cX0_restart) (nL := 1) (ret := none) (by decide +kernel) rfl (Nat.le_of_ble_eq_true rfl) (lv := [(0, .ref (a 5))]) rfl ?_
  intro V p_ e_ s_ m_ args_ below_ meth_ c_ A_ C hmn
  have hinX0 : ∀ w ∈ u_ws RX0 TX0 3, w ∈ wsX0_restart := by decide +kernel
  have k0 : Cond.fieldLink RX0 19 "FaxFilter$BitsIn" "passed" "I" ∈ wsX0_restart := List.mem_of_getElem? (i := 1) rfl
  refine z_aload_n C dX0_restart_0 0 rfl ?_
  refine z_iconst C (z := 0) dX0_restart_1 ?_
  refine z_put C hinX0 tyX0 tyX0_ok nmX0 (ci := 2) rfl 5 rfl 1 (by decide) k0 rfl rfl rfl rfl (Nat.le_of_ble_eq_true rfl) dX0_restart_2 (ws' := CW cy a kd co mk al dz rd rw wo sa sz 0 bt ou bi dm pl re cu) rfl ?_
  refine z_vret C dX0_restart_5 () ?_ ?_ ?_ (by decide) (by decide)
  · exact rfl
  · exact trivial
  · exact rfl
theorem kn_X0_append : zKn yX0_append wsX0_append cX0_append 2 (none) 1 := ⟨⟨_, rfl⟩, by decide +kernel, by decide +kernel, by decide +kernel⟩
set_option maxHeartbeats 400000 in
set_option maxRecDepth 100000 in
theorem c_X0_append (l : Launch) (D : va_G) (cy : Nat → ClassId) (tw : Nat → Nat) (a : Nat → Nat) (kd : Int) (co : Int) (mk : Bool) (al : Bool) (dz : Bool) (rd : Bool) (rw : Int) (wo : Nat → BitVec 64) (sa : Nat → Int) (sz : Int) (ps : Int) (bt : Nat → Int) (ou : Nat → Int) (bi : Int) (dm : Int) (pl : Bool) (re : Int) (cu : Bool) (oc : Int)  (h0 : 0 ≤ sz ∧ sz < 400) : zMet l yX0_append wsX0_append { frames := 0, cells := 0, slots := 0, locals := 0 } D (zT cy) tw (CW cy a kd co mk al dz rd rw wo sa sz ps bt ou bi dm pl re cu) [.ref (a 5), vI oc] 0 0 (S := Unit) (fun _ => none) (fun _ => CW cy a kd co mk al dz rd rw wo sa (sz + 1) ps (va_up bt (sz : Int).toNat (sb oc)) ou bi dm pl re cu) (fun _ => True) := by
  refine z_met (cc := cX0_append) (nL := 2) (ret := none) (by decide +kernel) rfl (Nat.le_of_ble_eq_true rfl) (lv := [(0, .ref (a 5)), (1, vI oc)]) rfl ?_
  intro V p_ e_ s_ m_ args_ below_ meth_ c_ A_ C hmn
  have hinX0 : ∀ w ∈ u_ws RX0 TX0 3, w ∈ wsX0_append := by decide +kernel
  have k0 : Cond.fieldLink RX0 15 "FaxFilter$BitsIn" "size" "I" ∈ wsX0_append := List.mem_of_getElem? (i := 1) rfl
  have k1 : Cond.fieldLink RX0 9 "FaxFilter$BitsIn" "bytes" "[B" ∈ wsX0_append := List.mem_of_getElem? (i := 2) rfl
  refine z_aload_n C dX0_append_0 0 rfl ?_
  refine z_get C hinX0 (ci := 2) rfl 5 rfl 0 (by decide) k0 rfl (v := vI sz) rfl dX0_append_1 ?_
  refine z_if_lt C (by omega) (tgt := 40) dX0_append_4 (by decide) (fun c1 => ?_) (fun c1 => ?_)
  · exfalso; omega
  · refine z_aload_n C dX0_append_7 0 rfl ?_
    refine z_get C hinX0 (ci := 2) rfl 5 rfl 0 (by decide) k0 rfl (v := vI sz) rfl dX0_append_8 ?_
    refine z_aload_n C dX0_append_11 0 rfl ?_
    refine z_get C hinX0 (ci := 2) rfl 5 rfl 2 (by decide) k1 rfl (v := .ref (a 19)) rfl dX0_append_12 ?_
    refine z_alen C 19 0 rfl rfl (N := 400) rfl dX0_append_15 ?_
    refine z_icmp_ge C (by omega) (by decide) (tgt := 40) dX0_append_16 (by decide) (fun c2 => ?_) (fun c2 => ?_)
    · exfalso; omega
    · refine z_aload_n C dX0_append_19 0 rfl ?_
      refine z_get C hinX0 (ci := 2) rfl 5 rfl 2 (by decide) k1 rfl (v := .ref (a 19)) rfl dX0_append_20 ?_
      refine z_aload_n C dX0_append_23 0 rfl ?_
      refine z_get C hinX0 (ci := 2) rfl 5 rfl 0 (by decide) k0 rfl (v := vI sz) rfl dX0_append_24 ?_
      refine z_iload_n C dX0_append_27 1 rfl ?_
      refine z_i2b C dX0_append_28 ?_
      refine z_bast C 19 0 (g := bt) rfl rfl (by omega) (by omega) (by decide) dX0_append_29 (ws' := CW cy a kd co mk al dz rd rw wo sa sz ps (va_up bt (sz : Int).toNat (sb oc)) ou bi dm pl re cu) rfl ?_
      refine z_aload_n C dX0_append_30 0 rfl ?_
      refine z_dup C dX0_append_31 rfl ?_
      refine z_get C hinX0 (ci := 2) rfl 5 rfl 0 (by decide) k0 rfl (v := vI sz) rfl dX0_append_32 ?_
      refine z_iconst C (z := 1) dX0_append_35 ?_
      refine z_iadd C dX0_append_36 ?_
      refine z_put C hinX0 tyX0 tyX0_ok nmX0 (ci := 2) rfl 5 rfl 0 (by decide) k0 rfl rfl rfl rfl (Nat.le_of_ble_eq_true rfl) dX0_append_37 (ws' := CW cy a kd co mk al dz rd rw wo sa (sz + 1) ps (va_up bt (sz : Int).toNat (sb oc)) ou bi dm pl re cu) rfl ?_
      refine z_vret C dX0_append_40 () ?_ ?_ ?_ (by decide) (by decide)
      · exact rfl
      · exact trivial
      · exact rfl
theorem kn_X0_left : zKn yX0_left wsX0_left cX0_left 1 (some .int) 0 := ⟨⟨_, rfl⟩, by decide +kernel, by decide +kernel, by decide +kernel⟩
set_option maxHeartbeats 400000 in
set_option maxRecDepth 100000 in
theorem c_X0_left (l : Launch) (D : va_G) (cy : Nat → ClassId) (tw : Nat → Nat) (a : Nat → Nat) (kd : Int) (co : Int) (mk : Bool) (al : Bool) (dz : Bool) (rd : Bool) (rw : Int) (wo : Nat → BitVec 64) (sa : Nat → Int) (sz : Int) (ps : Int) (bt : Nat → Int) (ou : Nat → Int) (bi : Int) (dm : Int) (pl : Bool) (re : Int) (cu : Bool)    : zMet l yX0_left wsX0_left { frames := 0, cells := 0, slots := 0, locals := 0 } D (zT cy) tw (CW cy a kd co mk al dz rd rw wo sa sz ps bt ou bi dm pl re cu) [.ref (a 5)] 0 0 (S := Unit) (fun _ => some (vI (8 * sz - ps))) (fun _ => CW cy a kd co mk al dz rd rw wo sa sz ps bt ou bi dm pl re cu) (fun _ => True) := by
  refine z_met (cc := cX0_left) (nL := 1) (ret := some .int) (by decide +kernel) rfl (Nat.le_of_ble_eq_true rfl) (lv := [(0, .ref (a 5))]) rfl ?_
  intro V p_ e_ s_ m_ args_ below_ meth_ c_ A_ C hmn
  have hinX0 : ∀ w ∈ u_ws RX0 TX0 3, w ∈ wsX0_left := by decide +kernel
  have k0 : Cond.fieldLink RX0 15 "FaxFilter$BitsIn" "size" "I" ∈ wsX0_left := List.mem_of_getElem? (i := 1) rfl
  have k1 : Cond.fieldLink RX0 19 "FaxFilter$BitsIn" "passed" "I" ∈ wsX0_left := List.mem_of_getElem? (i := 2) rfl
  refine z_bipush C (z := 8) dX0_left_0 (by decide) ?_
  refine z_aload_n C dX0_left_2 0 rfl ?_
  refine z_get C hinX0 (ci := 2) rfl 5 rfl 0 (by decide) k0 rfl (v := vI sz) rfl dX0_left_3 ?_
  refine z_imul C dX0_left_6 ?_
  refine z_aload_n C dX0_left_7 0 rfl ?_
  refine z_get C hinX0 (ci := 2) rfl 5 rfl 1 (by decide) k1 rfl (v := vI ps) rfl dX0_left_8 ?_
  refine z_isub C dX0_left_11 ?_
  refine z_iret (x := ((8 * sz) - ps)) C dX0_left_12 () ?_ ?_ ?_ (by decide) (by decide)
  · exact rfl
  · exact trivial
  · exact rfl
theorem kn_X0_pass : zKn yX0_pass wsX0_pass cX0_pass 2 (none) 1 := ⟨⟨_, rfl⟩, by decide +kernel, by decide +kernel, by decide +kernel⟩
set_option maxHeartbeats 400000 in
set_option maxRecDepth 100000 in
theorem c_X0_pass (l : Launch) (D : va_G) (cy : Nat → ClassId) (tw : Nat → Nat) (a : Nat → Nat) (kd : Int) (co : Int) (mk : Bool) (al : Bool) (dz : Bool) (rd : Bool) (rw : Int) (wo : Nat → BitVec 64) (sa : Nat → Int) (sz : Int) (ps : Int) (bt : Nat → Int) (ou : Nat → Int) (bi : Int) (dm : Int) (pl : Bool) (re : Int) (cu : Bool) (n : Int)  (h0 : 0 ≤ sz ∧ sz ≤ 400) (h1 : 0 ≤ ps ∧ ps ≤ 8 * sz) (h2 : 0 ≤ n ∧ n ≤ 1000) : zMet l yX0_pass wsX0_pass { frames := 1, cells := 0, slots := 0, locals := 21 } D (zT cy) tw (CW cy a kd co mk al dz rd rw wo sa sz ps bt ou bi dm pl re cu) [.ref (a 5), vI n] 0 0 (S := Unit) (fun _ => none) (fun _ => CW cy a kd co mk al dz rd rw wo sa sz (ps + (if 8 * sz - ps < n then 8 * sz - ps else n)) bt ou bi dm pl re cu) (fun _ => True) := by
  refine z_met (cc := cX0_pass) (nL := 2) (ret := none) (by decide +kernel) rfl (Nat.le_of_ble_eq_true rfl) (lv := [(0, .ref (a 5)), (1, vI n)]) rfl ?_
  intro V p_ e_ s_ m_ args_ below_ meth_ c_ A_ C hmn
  have hinX0 : ∀ w ∈ u_ws RX0 TX0 3, w ∈ wsX0_pass := by decide +kernel
  have k0 : Cond.fieldLink RX0 19 "FaxFilter$BitsIn" "passed" "I" ∈ wsX0_pass := List.mem_of_getElem? (i := 1) rfl
  have k1 : Cond.methodLink RX0 26 Lib.Math.min.name ∈ wsX0_pass := List.mem_of_getElem? (i := 2) rfl
  have k2 : Cond.static Lib.Math.min.name ∈ wsX0_pass := List.mem_of_getElem? (i := 3) rfl
  have k3 : Cond.initialized "java/lang/Math" ∈ wsX0_pass := List.mem_of_getElem? (i := 4) rfl
  have k4 : Cond.code Lib.Math.min.name Lib.Math.min.code 2 (some .int) ∈ wsX0_pass := List.mem_of_getElem? (i := 5) rfl
  refine z_aload_n C dX0_pass_0 0 rfl ?_
  refine z_dup C dX0_pass_1 rfl ?_
  refine z_get C hinX0 (ci := 2) rfl 5 rfl 1 (by decide) k0 rfl (v := vI ps) rfl dX0_pass_2 ?_
  refine z_iload_n C dX0_pass_5 1 rfl ?_
  refine z_aload_n C dX0_pass_6 0 rfl ?_
  refine z_callV C (As := []) (st := [vI n, vI ps, .ref (a 5)]) (c_X0_left l D cy tw a kd co mk al dz rd rw wo sa sz ps bt ou bi dm pl re cu   ) gX0_pass_X0_left kn_X0_left rfl ⟨rfl, rfl, Nat.le_of_ble_eq_true rfl, Nat.le_of_ble_eq_true rfl⟩ 5 rfl (ci := 2) rfl rfl (Nat.le_of_ble_eq_true rfl) ⟨Nat.le_of_ble_eq_true rfl, Nat.le_of_ble_eq_true rfl⟩ dX0_pass_7 (fun u1 hu1 => ?_)
  clear hu1; clear u1
  show V 0 0 (CW cy a kd co mk al dz rd rw wo sa sz ps bt ou bi dm pl re cu) [(0, .ref (a 5)), (1, vI n)] [vI (8 * sz - ps), vI n, vI ps, .ref (a 5)] 10
  refine z_mmin C k1 k2 k3 k4 (Nat.le_of_ble_eq_true rfl) (Nat.le_of_ble_eq_true rfl) (Nat.le_of_ble_eq_true rfl) (Nat.le_of_ble_eq_true rfl) (x := n) (y := (8 * sz - ps)) (by omega) (by omega) dX0_pass_10 ?_
  refine z_iadd C dX0_pass_13 ?_
  refine z_put C hinX0 tyX0 tyX0_ok nmX0 (ci := 2) rfl 5 rfl 1 (by decide) k0 rfl rfl rfl rfl (Nat.le_of_ble_eq_true rfl) dX0_pass_14 (ws' := CW cy a kd co mk al dz rd rw wo sa sz (ps + (if 8 * sz - ps < n then 8 * sz - ps else n)) bt ou bi dm pl re cu) rfl ?_
  refine z_vret C dX0_pass_17 () ?_ ?_ ?_ (by decide) (by decide)
  · exact rfl
  · exact trivial
  · exact rfl
theorem kn_X0_passToByte : zKn yX0_passToByte wsX0_passToByte cX0_passToByte 1 (none) 0 := ⟨⟨_, rfl⟩, by decide +kernel, by decide +kernel, by decide +kernel⟩
set_option maxHeartbeats 400000 in
set_option maxRecDepth 100000 in
theorem c_X0_passToByte (l : Launch) (D : va_G) (cy : Nat → ClassId) (tw : Nat → Nat) (a : Nat → Nat) (kd : Int) (co : Int) (mk : Bool) (al : Bool) (dz : Bool) (rd : Bool) (rw : Int) (wo : Nat → BitVec 64) (sa : Nat → Int) (sz : Int) (ps : Int) (bt : Nat → Int) (ou : Nat → Int) (bi : Int) (dm : Int) (pl : Bool) (re : Int) (cu : Bool)   (h0 : 0 ≤ sz ∧ sz ≤ 400) (h1 : 0 ≤ ps ∧ ps ≤ 8 * sz) : zMet l yX0_passToByte wsX0_passToByte { frames := 2, cells := 0, slots := 0, locals := 42 } D (zT cy) tw (CW cy a kd co mk al dz rd rw wo sa sz ps bt ou bi dm pl re cu) [.ref (a 5)] 0 0 (S := Unit) (fun _ => none) (fun _ => CW cy a kd co mk al dz rd rw wo sa sz (ps + (if 8 * sz - ps < -ps % 2 ^ 3 then 8 * sz - ps else -ps % 2 ^ 3)) bt ou bi dm pl re cu) (fun _ => True) := by
  refine z_met (cc := cX0_passToByte) (nL := 1) (ret := none) (by decide +kernel) rfl (Nat.le_of_ble_eq_true rfl) (lv := [(0, .ref (a 5))]) rfl ?_
  intro V p_ e_ s_ m_ args_ below_ meth_ c_ A_ C hmn
  have hinX0 : ∀ w ∈ u_ws RX0 TX0 3, w ∈ wsX0_passToByte := by decide +kernel
  have k0 : Cond.fieldLink RX0 19 "FaxFilter$BitsIn" "passed" "I" ∈ wsX0_passToByte := List.mem_of_getElem? (i := 1) rfl
  refine z_aload_n C dX0_passToByte_0 0 rfl ?_
  refine z_aload_n C dX0_passToByte_1 0 rfl ?_
  refine z_get C hinX0 (ci := 2) rfl 5 rfl 1 (by decide) k0 rfl (v := vI ps) rfl dX0_passToByte_2 ?_
  refine z_ineg C dX0_passToByte_5 ?_
  refine z_bipush C (z := 7) dX0_passToByte_6 (by decide) ?_
  refine z_iand C 3 dX0_passToByte_8 (by decide) (by decide) ?_
  refine z_callV C (As := [vI ((-ps) % 2 ^ 3)]) (st := []) (c_X0_pass l D cy tw a kd co mk al dz rd rw wo sa sz ps bt ou bi dm pl re cu ((-ps) % 2 ^ 3)  (by omega) (by omega) (by omega)) gX0_passToByte_X0_pass kn_X0_pass rfl ⟨rfl, rfl, Nat.le_of_ble_eq_true rfl, Nat.le_of_ble_eq_true rfl⟩ 5 rfl (ci := 2) rfl rfl (Nat.le_of_ble_eq_true rfl) ⟨Nat.le_of_ble_eq_true rfl, Nat.le_of_ble_eq_true rfl⟩ dX0_passToByte_9 (fun u1 hu1 => ?_)
  clear hu1; clear u1
  show V 0 0 (CW cy a kd co mk al dz rd rw wo sa sz (ps + (if 8 * sz - ps < ((-ps) % 2 ^ 3) then 8 * sz - ps else ((-ps) % 2 ^ 3))) bt ou bi dm pl re cu) [(0, .ref (a 5))] [] 12
  refine z_vret C dX0_passToByte_12 () ?_ ?_ ?_ (by decide) (by decide)
  · exact rfl
  · exact trivial
  · exact rfl
theorem kn_X0_byteAt : zKn yX0_byteAt wsX0_byteAt cX0_byteAt 2 (some .int) 1 := ⟨⟨_, rfl⟩, by decide +kernel, by decide +kernel, by decide +kernel⟩
set_option maxHeartbeats 400000 in
set_option maxRecDepth 100000 in
theorem c_X0_byteAt (l : Launch) (D : va_G) (cy : Nat → ClassId) (tw : Nat → Nat) (a : Nat → Nat) (kd : Int) (co : Int) (mk : Bool) (al : Bool) (dz : Bool) (rd : Bool) (rw : Int) (wo : Nat → BitVec 64) (sa : Nat → Int) (sz : Int) (ps : Int) (bt : Nat → Int) (ou : Nat → Int) (bi : Int) (dm : Int) (pl : Bool) (re : Int) (cu : Bool) (i : Int)  (h0 : 0 ≤ sz ∧ sz ≤ 400) (h1 : -10 ≤ i ∧ i ≤ 1000) : zMet l yX0_byteAt wsX0_byteAt { frames := 0, cells := 0, slots := 0, locals := 0 } D (zT cy) tw (CW cy a kd co mk al dz rd rw wo sa sz ps bt ou bi dm pl re cu) [.ref (a 5), vI i] 0 0 (S := Unit) (fun _ => some (vI (byC bt sz i))) (fun _ => CW cy a kd co mk al dz rd rw wo sa sz ps bt ou bi dm pl re cu) (fun _ => True) := by
  refine z_met (cc := cX0_byteAt) (nL := 2) (ret := some .int) (by decide +kernel) rfl (Nat.le_of_ble_eq_true rfl) (lv := [(0, .ref (a 5)), (1, vI i)]) rfl ?_
  intro V p_ e_ s_ m_ args_ below_ meth_ c_ A_ C hmn
  have hinX0 : ∀ w ∈ u_ws RX0 TX0 3, w ∈ wsX0_byteAt := by decide +kernel
  have k0 : Cond.fieldLink RX0 15 "FaxFilter$BitsIn" "size" "I" ∈ wsX0_byteAt := List.mem_of_getElem? (i := 1) rfl
  have k1 : Cond.fieldLink RX0 9 "FaxFilter$BitsIn" "bytes" "[B" ∈ wsX0_byteAt := List.mem_of_getElem? (i := 2) rfl
  refine z_iload_n C dX0_byteAt_0 1 rfl ?_
  refine z_if_lt C (by omega) (tgt := 34) dX0_byteAt_1 (by decide) (fun c1 => ?_) (fun c1 => ?_)
  · refine z_iconst C (z := 0) dX0_byteAt_34 ?_
    refine z_iret (x := 0) C dX0_byteAt_35 () ?_ ?_ ?_ (by decide) (by decide)
    · (simp only [byC]; first | rw [if_neg (by omega)] | rw [if_pos (by omega), sb_mod8])
    · exact trivial
    · exact rfl
  · refine z_iload_n C dX0_byteAt_4 1 rfl ?_
    refine z_aload_n C dX0_byteAt_5 0 rfl ?_
    refine z_get C hinX0 (ci := 2) rfl 5 rfl 0 (by decide) k0 rfl (v := vI sz) rfl dX0_byteAt_6 ?_
    refine z_icmp_ge C (by omega) (by omega) (tgt := 34) dX0_byteAt_9 (by decide) (fun c2 => ?_) (fun c2 => ?_)
    · refine z_iconst C (z := 0) dX0_byteAt_34 ?_
      refine z_iret (x := 0) C dX0_byteAt_35 () ?_ ?_ ?_ (by decide) (by decide)
      · (simp only [byC]; first | rw [if_neg (by omega)] | rw [if_pos (by omega), sb_mod8])
      · exact trivial
      · exact rfl
    · refine z_iload_n C dX0_byteAt_12 1 rfl ?_
      refine z_aload_n C dX0_byteAt_13 0 rfl ?_
      refine z_get C hinX0 (ci := 2) rfl 5 rfl 2 (by decide) k1 rfl (v := .ref (a 19)) rfl dX0_byteAt_14 ?_
      refine z_alen C 19 0 rfl rfl (N := 400) rfl dX0_byteAt_17 ?_
      refine z_icmp_ge C (by omega) (by decide) (tgt := 34) dX0_byteAt_18 (by decide) (fun c3 => ?_) (fun c3 => ?_)
      · exfalso; omega
      · refine z_aload_n C dX0_byteAt_21 0 rfl ?_
        refine z_get C hinX0 (ci := 2) rfl 5 rfl 2 (by decide) k1 rfl (v := .ref (a 19)) rfl dX0_byteAt_22 ?_
        refine z_iload_n C dX0_byteAt_25 1 rfl ?_
        refine z_bald C 19 0 (g := bt) rfl rfl (by omega) (by omega) (by decide) dX0_byteAt_26 ?_
        refine z_sipush C (z := 255) dX0_byteAt_27 (by decide) ?_
        refine z_iand C 8 dX0_byteAt_30 (by decide) (by decide) ?_
        refine z_goto C (tgt := 35) dX0_byteAt_31 (by decide) ?_
        refine z_iret (x := ((sb (bt (i : Int).toNat)) % 2 ^ 8)) C dX0_byteAt_35 () ?_ ?_ ?_ (by decide) (by decide)
        · (simp only [byC]; first | rw [if_neg (by omega)] | rw [if_pos (by omega), sb_mod8])
        · exact trivial
        · exact rfl
theorem kn_X0_bitAt : zKn yX0_bitAt wsX0_bitAt cX0_bitAt 2 (some .int) 1 := ⟨⟨_, rfl⟩, by decide +kernel, by decide +kernel, by decide +kernel⟩
set_option maxHeartbeats 400000 in
set_option maxRecDepth 100000 in
theorem c_X0_bitAt (l : Launch) (D : va_G) (cy : Nat → ClassId) (tw : Nat → Nat) (a : Nat → Nat) (kd : Int) (co : Int) (mk : Bool) (al : Bool) (dz : Bool) (rd : Bool) (rw : Int) (wo : Nat → BitVec 64) (sa : Nat → Int) (sz : Int) (ps : Int) (bt : Nat → Int) (ou : Nat → Int) (bi : Int) (dm : Int) (pl : Bool) (re : Int) (cu : Bool) (i : Int)  (h0 : 0 ≤ sz ∧ sz ≤ 400) (h1 : 0 ≤ i ∧ i ≤ 4000) : zMet l yX0_bitAt wsX0_bitAt { frames := 1, cells := 0, slots := 0, locals := 21 } D (zT cy) tw (CW cy a kd co mk al dz rd rw wo sa sz ps bt ou bi dm pl re cu) [.ref (a 5), vI i] 0 0 (S := Unit) (fun _ => some (vI (bitC bt sz i))) (fun _ => CW cy a kd co mk al dz rd rw wo sa sz ps bt ou bi dm pl re cu) (fun _ => True) := by
  refine z_met (cc := cX0_bitAt) (nL := 2) (ret := some .int) (by decide +kernel) rfl (Nat.le_of_ble_eq_true rfl) (lv := [(0, .ref (a 5)), (1, vI i)]) rfl ?_
  intro V p_ e_ s_ m_ args_ below_ meth_ c_ A_ C hmn
  refine z_aload_n C dX0_bitAt_0 0 rfl ?_
  refine z_iload_n C dX0_bitAt_1 1 rfl ?_
  refine z_bipush C (z := 8) dX0_bitAt_2 (by decide) ?_
  refine z_idiv C dX0_bitAt_4 (by omega) (by decide) ?_
  refine z_callV C (As := [vI (i / 8)]) (st := []) (c_X0_byteAt l D cy tw a kd co mk al dz rd rw wo sa sz ps bt ou bi dm pl re cu (i / 8)  (by omega) (by omega)) gX0_bitAt_X0_byteAt kn_X0_byteAt rfl ⟨rfl, rfl, Nat.le_of_ble_eq_true rfl, Nat.le_of_ble_eq_true rfl⟩ 5 rfl (ci := 2) rfl rfl (Nat.le_of_ble_eq_true rfl) ⟨Nat.le_of_ble_eq_true rfl, Nat.le_of_ble_eq_true rfl⟩ dX0_bitAt_5 (fun u1 hu1 => ?_)
  clear hu1; clear u1
  show V 0 0 (CW cy a kd co mk al dz rd rw wo sa sz ps bt ou bi dm pl re cu) [(0, .ref (a 5)), (1, vI i)] [vI (byC bt sz (i / 8))] 8
  have hb := byC_rg bt sz (i / 8)
  refine z_bipush C (z := 7) dX0_bitAt_8 (by decide) ?_
  refine z_iload_n C dX0_bitAt_10 1 rfl ?_
  refine z_bipush C (z := 8) dX0_bitAt_11 (by decide) ?_
  refine z_irem C dX0_bitAt_13 (by omega) (by decide) ?_
  refine z_isub C dX0_bitAt_14 ?_
  refine z_ishr C ((7 - (i % 8)).toNat) dX0_bitAt_15 (by omega) (by omega) (by omega) ?_
  refine z_iconst C (z := 1) dX0_bitAt_16 ?_
  refine z_iand C 1 dX0_bitAt_17 (by decide) (by decide) ?_
  refine z_iret (x := (((byC bt sz (i / 8)) / 2 ^ (7 - (i % 8)).toNat) % 2 ^ 1)) C dX0_bitAt_18 () ?_ ?_ ?_ (by decide) (by decide)
  · exact rfl
  · exact trivial
  · exact rfl
end
section
def inC (bt : Nat → Int) (sz : Int) : Int → Bool := fun i => decide (bitC bt sz i = 1)
theorem bitC_01 (bt : Nat → Int) (sz i : Int) : 0 ≤ bitC bt sz i ∧ bitC bt sz i < 2 := by unfold bitC; omega
theorem inC_t {bt : Nat → Int} {sz i : Int} (h : ¬ bitC bt sz i = 0) : inC bt sz i = true := by
  have := bitC_01 bt sz i
  unfold inC; exact decide_eq_true (by omega)
theorem inC_f {bt : Nat → Int} {sz i : Int} (h : bitC bt sz i = 0) : inC bt sz i = false := by
  unfold inC; exact decide_eq_false (by omega)
theorem kn_X0_zeros : zKn yX0_zeros wsX0_zeros cX0_zeros 3 (some .int) 0 := ⟨⟨_, rfl⟩, by decide +kernel, by decide +kernel, by decide +kernel⟩
set_option maxHeartbeats 400000 in
set_option maxRecDepth 100000 in
theorem c_X0_zeros (l : Launch) (D : va_G) (cy : Nat → ClassId) (tw : Nat → Nat) (a : Nat → Nat) (kd : Int) (co : Int) (mk : Bool) (al : Bool) (dz : Bool) (rd : Bool) (rw : Int) (wo : Nat → BitVec 64) (sa : Nat → Int) (sz : Int) (ps : Int) (bt : Nat → Int) (ou : Nat → Int) (bi : Int) (dm : Int) (pl : Bool) (re : Int) (cu : Bool)   (h0 : 0 ≤ sz ∧ sz ≤ 400) (h1 : 0 ≤ ps ∧ ps ≤ 8 * sz) : zMet l yX0_zeros wsX0_zeros { frames := 2, cells := 0, slots := 0, locals := 42 } D (zT cy) tw (CW cy a kd co mk al dz rd rw wo sa sz ps bt ou bi dm pl re cu) [.ref (a 5)] 0 0 (S := Unit) (fun _ => some (vI (zer (inC bt sz) (8 * sz) ps))) (fun _ => CW cy a kd co mk al dz rd rw wo sa sz ps bt ou bi dm pl re cu) (fun _ => True) := by
  refine z_met (cc := cX0_zeros) (nL := 3) (ret := some .int) (by decide +kernel) rfl (Nat.le_of_ble_eq_true rfl) (lv := [(0, .ref (a 5))]) rfl ?_
  intro V p_ e_ s_ m_ args_ below_ meth_ c_ A_ C hmn
  have hinX0 : ∀ w ∈ u_ws RX0 TX0 3, w ∈ wsX0_zeros := by decide +kernel
  have k0 : Cond.fieldLink RX0 19 "FaxFilter$BitsIn" "passed" "I" ∈ wsX0_zeros := List.mem_of_getElem? (i := 1) rfl
  refine z_aload_n C dX0_zeros_0 0 rfl ?_
  refine z_callV C (As := []) (st := []) (c_X0_left l D cy tw a kd co mk al dz rd rw wo sa sz ps bt ou bi dm pl re cu   ) gX0_zeros_X0_left kn_X0_left rfl ⟨rfl, rfl, Nat.le_of_ble_eq_true rfl, Nat.le_of_ble_eq_true rfl⟩ 5 rfl (ci := 2) rfl rfl (Nat.le_of_ble_eq_true rfl) ⟨Nat.le_of_ble_eq_true rfl, Nat.le_of_ble_eq_true rfl⟩ dX0_zeros_1 (fun u1 hu1 => ?_)
  clear hu1; clear u1
  show V 0 0 (CW cy a kd co mk al dz rd rw wo sa sz ps bt ou bi dm pl re cu) [(0, .ref (a 5))] [vI (8 * sz - ps)] 4
  refine z_istore_n C (lv' := [(1, vI (8 * sz - ps)), (0, .ref (a 5))]) dX0_zeros_4 rfl (by decide) rfl ?_
  refine z_iconst C (z := 0) dX0_zeros_5 ?_
  refine z_istore_n C (lv' := [(2, vI 0), (1, vI (8 * sz - ps)), (0, .ref (a 5))]) dX0_zeros_6 rfl (by decide) rfl ?_
  have J7 : ∀ (f : Nat) (n : Int), 0 ≤ n → n ≤ 8 * sz - ps → zer (inC bt sz) (8 * sz) ps = n + zer (inC bt sz) (8 * sz) (ps + n) → (8 * sz - ps - n).toNat < f → V 0 0 (CW cy a kd co mk al dz rd rw wo sa sz ps bt ou bi dm pl re cu) [(0, .ref (a 5)), (1, vI (8 * sz - ps)), (2, vI n)] [] 7 := by
    intro f
    induction f with
    | zero => intro n i0 i1 i2 hf; exact absurd hf (Nat.not_lt_zero _)
    | succ f ih =>
      intro n i0 i1 i2 hf
      refine z_iload_n C dX0_zeros_7 2 rfl ?_
      refine z_iload_n C dX0_zeros_8 1 rfl ?_
      refine z_icmp_ge C (by omega) (by omega) (tgt := 33) dX0_zeros_9 (by decide) (fun c2 => ?_) (fun c2 => ?_)
      · refine z_iload_n C dX0_zeros_33 1 rfl ?_
        refine z_iret (x := (8 * sz - ps)) C dX0_zeros_34 () ?_ ?_ ?_ (by decide) (by decide)
        · rw [i2, zer_ge (by omega), show n = 8 * sz - ps by omega, Int.add_zero]
        · exact trivial
        · exact rfl
      · refine z_aload_n C dX0_zeros_12 0 rfl ?_
        refine z_aload_n C dX0_zeros_13 0 rfl ?_
        refine z_get C hinX0 (ci := 2) rfl 5 rfl 1 (by decide) k0 rfl (v := vI ps) rfl dX0_zeros_14 ?_
        refine z_iload_n C dX0_zeros_17 2 rfl ?_
        refine z_iadd C dX0_zeros_18 ?_
        refine z_callV C (As := [vI (ps + n)]) (st := []) (c_X0_bitAt l D cy tw a kd co mk al dz rd rw wo sa sz ps bt ou bi dm pl re cu (ps + n)  (by omega) (by omega)) gX0_zeros_X0_bitAt kn_X0_bitAt rfl ⟨rfl, rfl, Nat.le_of_ble_eq_true rfl, Nat.le_of_ble_eq_true rfl⟩ 5 rfl (ci := 2) rfl rfl (Nat.le_of_ble_eq_true rfl) ⟨Nat.le_of_ble_eq_true rfl, Nat.le_of_ble_eq_true rfl⟩ dX0_zeros_19 (fun u3 hu3 => ?_)
        clear hu3; clear u3
        show V 0 0 (CW cy a kd co mk al dz rd rw wo sa sz ps bt ou bi dm pl re cu) [(0, .ref (a 5)), (1, vI (8 * sz - ps)), (2, vI n)] [vI (bitC bt sz (ps + n))] 22
        refine z_if_eq C (by have := bitC_01 bt sz (ps + n); omega) (tgt := 27) dX0_zeros_22 (by decide) (fun cb => ?_) (fun cb => ?_)
        · refine z_iinc C (lv' := [(2, vI (n + 1)), (0, .ref (a 5)), (1, vI (8 * sz - ps))]) dX0_zeros_27 2 rfl (by decide) rfl ?_
          refine z_goto C (tgt := 7) dX0_zeros_30 (by decide) ?_
          refine z_lsub C [1, 2, 0] rfl ?_
          exact ih (n + 1) (by omega) (by omega) (by rw [show ps + (n + 1) = ps + n + 1 by omega, i2, zer_st (by omega) (inC_f cb)]; omega) (by omega)
        · refine z_iload_n C dX0_zeros_25 2 rfl ?_
          refine z_iret (x := n) C dX0_zeros_26 () ?_ ?_ ?_ (by decide) (by decide)
          · rw [i2, zer_lt (by omega) (inC_t cb), Int.add_zero]
          · exact trivial
          · exact rfl
  refine z_lsub C [2, 1, 0] rfl ?_
  exact J7 _ 0 (by omega) (by omega) (by simp) (Nat.lt_succ_self _)
theorem kn_X0_isMarkNext : zKn yX0_isMarkNext wsX0_isMarkNext cX0_isMarkNext 2 (some .boolean) 0 := ⟨⟨_, rfl⟩, by decide +kernel, by decide +kernel, by decide +kernel⟩
set_option maxHeartbeats 400000 in
set_option maxRecDepth 100000 in
theorem c_X0_isMarkNext (l : Launch) (D : va_G) (cy : Nat → ClassId) (tw : Nat → Nat) (a : Nat → Nat) (kd : Int) (co : Int) (mk : Bool) (al : Bool) (dz : Bool) (rd : Bool) (rw : Int) (wo : Nat → BitVec 64) (sa : Nat → Int) (sz : Int) (ps : Int) (bt : Nat → Int) (ou : Nat → Int) (bi : Int) (dm : Int) (pl : Bool) (re : Int) (cu : Bool)   (h0 : 0 ≤ sz ∧ sz ≤ 400) (h1 : 0 ≤ ps ∧ ps ≤ 8 * sz) : zMet l yX0_isMarkNext wsX0_isMarkNext { frames := 3, cells := 0, slots := 0, locals := 64 } D (zT cy) tw (CW cy a kd co mk al dz rd rw wo sa sz ps bt ou bi dm pl re cu) [.ref (a 5)] 0 0 (S := Unit) (fun _ => some (vI (b2i (isMk (inC bt sz) (8 * sz) ps)))) (fun _ => CW cy a kd co mk al dz rd rw wo sa sz ps bt ou bi dm pl re cu) (fun _ => True) := by
  refine z_met (cc := cX0_isMarkNext) (nL := 2) (ret := some .boolean) (by decide +kernel) rfl (Nat.le_of_ble_eq_true rfl) (lv := [(0, .ref (a 5))]) rfl ?_
  intro V p_ e_ s_ m_ args_ below_ meth_ c_ A_ C hmn
  refine z_aload_n C dX0_isMarkNext_0 0 rfl ?_
  refine z_callV C (As := []) (st := []) (c_X0_zeros l D cy tw a kd co mk al dz rd rw wo sa sz ps bt ou bi dm pl re cu   (by omega) (by omega)) gX0_isMarkNext_X0_zeros kn_X0_zeros rfl ⟨rfl, rfl, Nat.le_of_ble_eq_true rfl, Nat.le_of_ble_eq_true rfl⟩ 5 rfl (ci := 2) rfl rfl (Nat.le_of_ble_eq_true rfl) ⟨Nat.le_of_ble_eq_true rfl, Nat.le_of_ble_eq_true rfl⟩ dX0_isMarkNext_1 (fun u1 hu1 => ?_)
  clear hu1; clear u1
  show V 0 0 (CW cy a kd co mk al dz rd rw wo sa sz ps bt ou bi dm pl re cu) [(0, .ref (a 5))] [vI (zer (inC bt sz) (8 * sz) ps)] 4
  refine z_istore_n C (lv' := [(1, vI (zer (inC bt sz) (8 * sz) ps)), (0, .ref (a 5))]) dX0_isMarkNext_4 rfl (by decide) rfl ?_
  have hz := zer_rg (inC bt sz) (8 * sz) ps (by omega)
  refine z_iload_n C dX0_isMarkNext_5 0 rfl ?_
  refine z_bipush C (z := 11) dX0_isMarkNext_6 (by decide) ?_
  refine z_icmp_lt C (by omega) (by decide) (tgt := 23) dX0_isMarkNext_8 (by decide) (fun c2 => ?_) (fun c2 => ?_)
  · refine z_iconst C (z := 0) dX0_isMarkNext_23 ?_
    refine z_zret (b := false) C dX0_isMarkNext_24 () ?_ ?_ ?_ (by decide) (by decide)
    · (unfold isMk; first | rw [decide_eq_true (by omega)] | rw [decide_eq_false (by omega)])
    · exact trivial
    · exact rfl
  · refine z_iload_n C dX0_isMarkNext_11 0 rfl ?_
    refine z_aload_n C dX0_isMarkNext_12 1 rfl ?_
    refine z_callV C (As := []) (st := [vI (zer (inC bt sz) (8 * sz) ps)]) (c_X0_left l D cy tw a kd co mk al dz rd rw wo sa sz ps bt ou bi dm pl re cu   ) gX0_isMarkNext_X0_left kn_X0_left rfl ⟨rfl, rfl, Nat.le_of_ble_eq_true rfl, Nat.le_of_ble_eq_true rfl⟩ 5 rfl (ci := 2) rfl rfl (Nat.le_of_ble_eq_true rfl) ⟨Nat.le_of_ble_eq_true rfl, Nat.le_of_ble_eq_true rfl⟩ dX0_isMarkNext_13 (fun u3 hu3 => ?_)
    clear hu3; clear u3
    show V 0 0 (CW cy a kd co mk al dz rd rw wo sa sz ps bt ou bi dm pl re cu) [(1, vI (zer (inC bt sz) (8 * sz) ps)), (0, .ref (a 5))] [vI (8 * sz - ps), vI (zer (inC bt sz) (8 * sz) ps)] 16
    refine z_icmp_ge C (by omega) (by omega) (tgt := 23) dX0_isMarkNext_16 (by decide) (fun c4 => ?_) (fun c4 => ?_)
    · refine z_iconst C (z := 0) dX0_isMarkNext_23 ?_
      refine z_zret (b := false) C dX0_isMarkNext_24 () ?_ ?_ ?_ (by decide) (by decide)
      · (unfold isMk; first | rw [decide_eq_true (by omega)] | rw [decide_eq_false (by omega)])
      · exact trivial
      · exact rfl
    · refine z_iconst C (z := 1) dX0_isMarkNext_19 ?_
      refine z_goto C (tgt := 24) dX0_isMarkNext_20 (by decide) ?_
      refine z_zret (b := true) C dX0_isMarkNext_24 () ?_ ?_ ?_ (by decide) (by decide)
      · (unfold isMk; first | rw [decide_eq_true (by omega)] | rw [decide_eq_false (by omega)])
      · exact trivial
      · exact rfl
theorem kn_X0_passMark : zKn yX0_passMark wsX0_passMark cX0_passMark 5 (some .boolean) 0 := ⟨⟨_, rfl⟩, by decide +kernel, by decide +kernel, by decide +kernel⟩
set_option maxHeartbeats 400000 in
set_option maxRecDepth 100000 in
theorem c_X0_passMark (l : Launch) (D : va_G) (cy : Nat → ClassId) (tw : Nat → Nat) (a : Nat → Nat) (kd : Int) (co : Int) (mk : Bool) (al : Bool) (dz : Bool) (rd : Bool) (rw : Int) (wo : Nat → BitVec 64) (sa : Nat → Int) (sz : Int) (ps : Int) (bt : Nat → Int) (ou : Nat → Int) (bi : Int) (dm : Int) (pl : Bool) (re : Int) (cu : Bool)   (h0 : 0 ≤ sz ∧ sz ≤ 400) (h1 : 0 ≤ ps ∧ ps ≤ 8 * sz) : zMet l yX0_passMark wsX0_passMark { frames := 2, cells := 0, slots := 0, locals := 42 } D (zT cy) tw (CW cy a kd co mk al dz rd rw wo sa sz ps bt ou bi dm pl re cu) [.ref (a 5)] 0 0 (S := Unit) (fun _ => some (vI (b2i (decide (0 ≤ fmk (inC bt sz) (8 * sz) ps 0))))) (fun _ => CW cy a kd co mk al dz rd rw wo sa sz (if 0 ≤ fmk (inC bt sz) (8 * sz) ps 0 then fmk (inC bt sz) (8 * sz) ps 0 else 8 * sz) bt ou bi dm pl re cu) (fun _ => True) := by
  refine z_met (cc := cX0_passMark) (nL := 5) (ret := some .boolean) (by decide +kernel) rfl (Nat.le_of_ble_eq_true rfl) (lv := [(0, .ref (a 5))]) rfl ?_
  intro V p_ e_ s_ m_ args_ below_ meth_ c_ A_ C hmn
  have hinX0 : ∀ w ∈ u_ws RX0 TX0 3, w ∈ wsX0_passMark := by decide +kernel
  have k0 : Cond.fieldLink RX0 15 "FaxFilter$BitsIn" "size" "I" ∈ wsX0_passMark := List.mem_of_getElem? (i := 1) rfl
  have k1 : Cond.fieldLink RX0 19 "FaxFilter$BitsIn" "passed" "I" ∈ wsX0_passMark := List.mem_of_getElem? (i := 2) rfl
  refine z_iconst C (z := 0) dX0_passMark_0 ?_
  refine z_istore_n C (lv' := [(1, vI 0), (0, .ref (a 5))]) dX0_passMark_1 rfl (by decide) rfl ?_
  refine z_bipush C (z := 8) dX0_passMark_2 (by decide) ?_
  refine z_aload_n C dX0_passMark_4 1 rfl ?_
  refine z_get C hinX0 (ci := 2) rfl 5 rfl 0 (by decide) k0 rfl (v := vI sz) rfl dX0_passMark_5 ?_
  refine z_imul C dX0_passMark_8 ?_
  refine z_istore_n C (lv' := [(2, vI (8 * sz)), (1, vI 0), (0, .ref (a 5))]) dX0_passMark_9 rfl (by decide) rfl ?_
  refine z_aload_n C dX0_passMark_10 2 rfl ?_
  refine z_get C hinX0 (ci := 2) rfl 5 rfl 1 (by decide) k1 rfl (v := vI ps) rfl dX0_passMark_11 ?_
  refine z_istore_n C (lv' := [(3, vI ps), (2, vI (8 * sz)), (1, vI 0), (0, .ref (a 5))]) dX0_passMark_14 rfl (by decide) rfl ?_
  have J15 : ∀ (f : Nat) (z : Int) (i : Int), 0 ≤ z ∧ z ≤ i - ps → ps ≤ i ∧ i ≤ 8 * sz → fmk (inC bt sz) (8 * sz) ps 0 = fmk (inC bt sz) (8 * sz) i z → (8 * sz - i).toNat < f → V 0 0 (CW cy a kd co mk al dz rd rw wo sa sz ps bt ou bi dm pl re cu) [(0, .ref (a 5)), (1, vI z), (2, vI (8 * sz)), (3, vI i)] [] 15 := by
    intro f
    induction f with
    | zero => intro z i i0 i1 i2 hf; exact absurd hf (Nat.not_lt_zero _)
    | succ f ih =>
      intro z i i0 i1 i2 hf
      refine z_iload_n C dX0_passMark_15 3 rfl ?_
      refine z_iload_n C dX0_passMark_16 2 rfl ?_
      refine z_icmp_ge C (by omega) (by omega) (tgt := 74) dX0_passMark_17 (by decide) (fun c1 => ?_) (fun c1 => ?_)
      · refine z_aload_n C dX0_passMark_74 0 rfl ?_
        refine z_iload_n C dX0_passMark_75 2 rfl ?_
        refine z_put C hinX0 tyX0 tyX0_ok nmX0 (ci := 2) rfl 5 rfl 1 (by decide) k1 rfl rfl rfl rfl (Nat.le_of_ble_eq_true rfl) dX0_passMark_76 (ws' := CW cy a kd co mk al dz rd rw wo sa sz (8 * sz) bt ou bi dm pl re cu) rfl ?_
        refine z_iconst C (z := 0) dX0_passMark_79 ?_
        refine z_zret (b := false) C dX0_passMark_80 () ?_ ?_ ?_ (by decide) (by decide)
        · rw [decide_eq_false (by rw [i2, fmk_end (by omega)]; omega)]
        · exact trivial
        · rw [i2, fmk_end (by omega), if_neg (by omega)]
      · refine z_aload_n C dX0_passMark_20 0 rfl ?_
        refine z_iload_n C dX0_passMark_21 3 rfl ?_
        refine z_callV C (As := [vI i]) (st := []) (c_X0_bitAt l D cy tw a kd co mk al dz rd rw wo sa sz ps bt ou bi dm pl re cu i  (by omega) (by omega)) gX0_passMark_X0_bitAt kn_X0_bitAt rfl ⟨rfl, rfl, Nat.le_of_ble_eq_true rfl, Nat.le_of_ble_eq_true rfl⟩ 5 rfl (ci := 2) rfl rfl (Nat.le_of_ble_eq_true rfl) ⟨Nat.le_of_ble_eq_true rfl, Nat.le_of_ble_eq_true rfl⟩ dX0_passMark_22 (fun u2 hu2 => ?_)
        clear hu2; clear u2
        show V 0 0 (CW cy a kd co mk al dz rd rw wo sa sz ps bt ou bi dm pl re cu) [(0, .ref (a 5)), (1, vI z), (2, vI (8 * sz)), (3, vI i)] [vI (bitC bt sz i)] 25
        refine z_if_eq C (by have := bitC_01 bt sz i; omega) (tgt := 32) dX0_passMark_25 (by decide) (fun cb => ?_) (fun cb => ?_)
        · refine z_iconst C (z := 0) dX0_passMark_32 ?_
          refine z_istore C (lv' := [(4, vI 0), (0, .ref (a 5)), (1, vI z), (2, vI (8 * sz)), (3, vI i)]) dX0_passMark_33 (by decide) rfl ?_
          refine z_iload C dX0_passMark_35 0 rfl ?_
          refine z_if_eq C (by decide) (tgt := 55) dX0_passMark_37 (by decide) (fun c3 => ?_) (fun c3 => ?_)
          rotate_left; · exact absurd c3 (by decide)
          refine z_iload C dX0_passMark_55 0 rfl ?_
          refine z_if_eq C (by decide) (tgt := 64) dX0_passMark_57 (by decide) (fun c4 => ?_) (fun c4 => ?_)
          rotate_left; · exact absurd c4 (by decide)
          refine z_iload_n C dX0_passMark_64 2 rfl ?_
          refine z_iconst C (z := 1) dX0_passMark_65 ?_
          refine z_iadd C dX0_passMark_66 ?_
          refine z_istore_n C (lv' := [(1, vI (z + 1)), (4, vI 0), (0, .ref (a 5)), (2, vI (8 * sz)), (3, vI i)]) dX0_passMark_67 rfl (by decide) rfl ?_
          refine z_iinc C (lv' := [(3, vI (i + 1)), (1, vI (z + 1)), (4, vI 0), (0, .ref (a 5)), (2, vI (8 * sz))]) dX0_passMark_68 4 rfl (by decide) rfl ?_
          refine z_goto C (tgt := 15) dX0_passMark_71 (by decide) ?_
          refine z_lsub C [3, 1, 4, 0] rfl ?_
          exact ih (z + 1) (i + 1) (by omega) (by omega) (by rw [i2, fmk_zero (by omega) (inC_f cb)]) (by omega)
        · refine z_iconst C (z := 1) dX0_passMark_28 ?_
          refine z_goto C (tgt := 33) dX0_passMark_29 (by decide) ?_
          refine z_istore C (lv' := [(4, vI 1), (0, .ref (a 5)), (1, vI z), (2, vI (8 * sz)), (3, vI i)]) dX0_passMark_33 (by decide) rfl ?_
          refine z_iload C dX0_passMark_35 0 rfl ?_
          refine z_if_eq C (by decide) (tgt := 55) dX0_passMark_37 (by decide) (fun c5 => ?_) (fun c5 => ?_)
          · exact absurd c5 (by decide)
          refine z_iload_n C dX0_passMark_40 2 rfl ?_
          refine z_bipush C (z := 11) dX0_passMark_41 (by decide) ?_
          refine z_icmp_lt C (by omega) (by decide) (tgt := 55) dX0_passMark_43 (by decide) (fun c6 => ?_) (fun c6 => ?_)
          · refine z_iload C dX0_passMark_55 0 rfl ?_
            refine z_if_eq C (by decide) (tgt := 64) dX0_passMark_57 (by decide) (fun c7 => ?_) (fun c7 => ?_)
            · exact absurd c7 (by decide)
            refine z_iconst C (z := 0) dX0_passMark_60 ?_
            refine z_goto C (tgt := 67) dX0_passMark_61 (by decide) ?_
            refine z_istore_n C (lv' := [(1, vI 0), (4, vI 1), (0, .ref (a 5)), (2, vI (8 * sz)), (3, vI i)]) dX0_passMark_67 rfl (by decide) rfl ?_
            refine z_iinc C (lv' := [(3, vI (i + 1)), (1, vI 0), (4, vI 1), (0, .ref (a 5)), (2, vI (8 * sz))]) dX0_passMark_68 4 rfl (by decide) rfl ?_
            refine z_goto C (tgt := 15) dX0_passMark_71 (by decide) ?_
            refine z_lsub C [3, 1, 4, 0] rfl ?_
            exact ih 0 (i + 1) (by omega) (by omega) (by rw [i2, fmk_one (by omega) (inC_t cb) (by omega)]) (by omega)
          · refine z_aload_n C dX0_passMark_46 1 rfl ?_
            refine z_iload_n C dX0_passMark_47 4 rfl ?_
            refine z_iconst C (z := 1) dX0_passMark_48 ?_
            refine z_iadd C dX0_passMark_49 ?_
            refine z_put C hinX0 tyX0 tyX0_ok nmX0 (ci := 2) rfl 5 rfl 1 (by decide) k1 rfl rfl rfl rfl (Nat.le_of_ble_eq_true rfl) dX0_passMark_50 (ws' := CW cy a kd co mk al dz rd rw wo sa sz (i + 1) bt ou bi dm pl re cu) rfl ?_
            refine z_iconst C (z := 1) dX0_passMark_53 ?_
            refine z_zret (b := true) C dX0_passMark_54 () ?_ ?_ ?_ (by decide) (by decide)
            · rw [decide_eq_true (by rw [i2, fmk_hit (by omega) (inC_t cb) (by omega)]; omega)]
            · exact trivial
            · rw [i2, fmk_hit (by omega) (inC_t cb) (by omega), if_pos (by omega)]
  refine z_lsub C [3, 2, 1, 0] rfl ?_
  exact J15 _ 0 ps (by omega) (by omega) (rfl) (Nat.lt_succ_self _)
def pkC (bt : Nat → Int) (sz ps n : Int) : Int := (byC bt sz (ps / 8) * 2 ^ 16 + byC bt sz (ps / 8 + 1) * 2 ^ 8 + byC bt sz (ps / 8 + 2)) / 2 ^ (24 - ps % 8 - n).toNat % 2 ^ n.toNat
theorem kn_X0_peek : zKn yX0_peek wsX0_peek cX0_peek 4 (some .int) 1 := ⟨⟨_, rfl⟩, by decide +kernel, by decide +kernel, by decide +kernel⟩
set_option maxHeartbeats 400000 in
set_option maxRecDepth 100000 in
theorem c_X0_peek (l : Launch) (D : va_G) (cy : Nat → ClassId) (tw : Nat → Nat) (a : Nat → Nat) (kd : Int) (co : Int) (mk : Bool) (al : Bool) (dz : Bool) (rd : Bool) (rw : Int) (wo : Nat → BitVec 64) (sa : Nat → Int) (sz : Int) (ps : Int) (bt : Nat → Int) (ou : Nat → Int) (bi : Int) (dm : Int) (pl : Bool) (re : Int) (cu : Bool) (n : Int)  (h0 : 0 ≤ sz ∧ sz ≤ 400) (h1 : 0 ≤ ps ∧ ps ≤ 8 * sz) (h2 : 1 ≤ n ∧ n ≤ 16) : zMet l yX0_peek wsX0_peek { frames := 1, cells := 0, slots := 0, locals := 21 } D (zT cy) tw (CW cy a kd co mk al dz rd rw wo sa sz ps bt ou bi dm pl re cu) [.ref (a 5), vI n] 0 0 (S := Unit) (fun _ => some (vI (pkC bt sz ps n))) (fun _ => CW cy a kd co mk al dz rd rw wo sa sz ps bt ou bi dm pl re cu) (fun _ => True) := by
  refine z_met (cc := cX0_peek) (nL := 4) (ret := some .int) (by decide +kernel) rfl (Nat.le_of_ble_eq_true rfl) (lv := [(0, .ref (a 5)), (1, vI n)]) rfl ?_
  intro V p_ e_ s_ m_ args_ below_ meth_ c_ A_ C hmn
  have hinX0 : ∀ w ∈ u_ws RX0 TX0 3, w ∈ wsX0_peek := by decide +kernel
  have k0 : Cond.fieldLink RX0 19 "FaxFilter$BitsIn" "passed" "I" ∈ wsX0_peek := List.mem_of_getElem? (i := 1) rfl
  refine z_aload_n C dX0_peek_0 0 rfl ?_
  refine z_get C hinX0 (ci := 2) rfl 5 rfl 1 (by decide) k0 rfl (v := vI ps) rfl dX0_peek_1 ?_
  refine z_bipush C (z := 8) dX0_peek_4 (by decide) ?_
  refine z_idiv C dX0_peek_6 (by omega) (by decide) ?_
  refine z_istore_n C (lv' := [(2, vI (ps / 8)), (0, .ref (a 5)), (1, vI n)]) dX0_peek_7 rfl (by decide) rfl ?_
  have hb0 := byC_rg bt sz (ps / 8); have hb1 := byC_rg bt sz (ps / 8 + 1); have hb2 := byC_rg bt sz (ps / 8 + 2)
  refine z_aload_n C dX0_peek_8 1 rfl ?_
  refine z_iload_n C dX0_peek_9 0 rfl ?_
  refine z_callV C (As := [vI (ps / 8)]) (st := []) (c_X0_byteAt l D cy tw a kd co mk al dz rd rw wo sa sz ps bt ou bi dm pl re cu (ps / 8)  (by omega) (by omega)) gX0_peek_X0_byteAt kn_X0_byteAt rfl ⟨rfl, rfl, Nat.le_of_ble_eq_true rfl, Nat.le_of_ble_eq_true rfl⟩ 5 rfl (ci := 2) rfl rfl (Nat.le_of_ble_eq_true rfl) ⟨Nat.le_of_ble_eq_true rfl, Nat.le_of_ble_eq_true rfl⟩ dX0_peek_10 (fun u1 hu1 => ?_)
  clear hu1; clear u1
  show V 0 0 (CW cy a kd co mk al dz rd rw wo sa sz ps bt ou bi dm pl re cu) [(2, vI (ps / 8)), (0, .ref (a 5)), (1, vI n)] [vI (byC bt sz (ps / 8))] 13
  refine z_bipush C (z := 16) dX0_peek_13 (by decide) ?_
  refine z_ishl C 16 dX0_peek_15 (rfl) (by decide) ?_
  refine z_aload_n C dX0_peek_16 1 rfl ?_
  refine z_iload_n C dX0_peek_17 0 rfl ?_
  refine z_iconst C (z := 1) dX0_peek_18 ?_
  refine z_iadd C dX0_peek_19 ?_
  refine z_callV C (As := [vI ((ps / 8) + 1)]) (st := [vI ((byC bt sz (ps / 8)) * 2 ^ 16)]) (c_X0_byteAt l D cy tw a kd co mk al dz rd rw wo sa sz ps bt ou bi dm pl re cu ((ps / 8) + 1)  (by omega) (by omega)) gX0_peek_X0_byteAt kn_X0_byteAt rfl ⟨rfl, rfl, Nat.le_of_ble_eq_true rfl, Nat.le_of_ble_eq_true rfl⟩ 5 rfl (ci := 2) rfl rfl (Nat.le_of_ble_eq_true rfl) ⟨Nat.le_of_ble_eq_true rfl, Nat.le_of_ble_eq_true rfl⟩ dX0_peek_20 (fun u2 hu2 => ?_)
  clear hu2; clear u2
  show V 0 0 (CW cy a kd co mk al dz rd rw wo sa sz ps bt ou bi dm pl re cu) [(2, vI (ps / 8)), (0, .ref (a 5)), (1, vI n)] [vI (byC bt sz ((ps / 8) + 1)), vI ((byC bt sz (ps / 8)) * 2 ^ 16)] 23
  refine z_bipush C (z := 8) dX0_peek_23 (by decide) ?_
  refine z_ishl C 8 dX0_peek_25 (rfl) (by decide) ?_
  refine z_ior C (byC bt sz (ps / 8)) 16 dX0_peek_26 (by decide) (rfl) (by omega) ?_
  refine z_aload_n C dX0_peek_27 1 rfl ?_
  refine z_iload_n C dX0_peek_28 0 rfl ?_
  refine z_iconst C (z := 2) dX0_peek_29 ?_
  refine z_iadd C dX0_peek_30 ?_
  refine z_callV C (As := [vI ((ps / 8) + 2)]) (st := [vI (((byC bt sz (ps / 8)) * 2 ^ 16) + ((byC bt sz ((ps / 8) + 1)) * 2 ^ 8))]) (c_X0_byteAt l D cy tw a kd co mk al dz rd rw wo sa sz ps bt ou bi dm pl re cu ((ps / 8) + 2)  (by omega) (by omega)) gX0_peek_X0_byteAt kn_X0_byteAt rfl ⟨rfl, rfl, Nat.le_of_ble_eq_true rfl, Nat.le_of_ble_eq_true rfl⟩ 5 rfl (ci := 2) rfl rfl (Nat.le_of_ble_eq_true rfl) ⟨Nat.le_of_ble_eq_true rfl, Nat.le_of_ble_eq_true rfl⟩ dX0_peek_31 (fun u3 hu3 => ?_)
  clear hu3; clear u3
  show V 0 0 (CW cy a kd co mk al dz rd rw wo sa sz ps bt ou bi dm pl re cu) [(2, vI (ps / 8)), (0, .ref (a 5)), (1, vI n)] [vI (byC bt sz ((ps / 8) + 2)), vI (((byC bt sz (ps / 8)) * 2 ^ 16) + ((byC bt sz ((ps / 8) + 1)) * 2 ^ 8))] 34
  refine z_ior C (byC bt sz (ps / 8) * 2 ^ 8 + byC bt sz (ps / 8 + 1)) 8 dX0_peek_34 (by decide) (by omega) (by omega) ?_
  refine z_istore_n C (lv' := [(3, vI ((((byC bt sz (ps / 8)) * 2 ^ 16) + ((byC bt sz ((ps / 8) + 1)) * 2 ^ 8)) + (byC bt sz ((ps / 8) + 2)))), (2, vI (ps / 8)), (0, .ref (a 5)), (1, vI n)]) dX0_peek_35 rfl (by decide) rfl ?_
  refine z_iload_n C dX0_peek_36 0 rfl ?_
  refine z_bipush C (z := 24) dX0_peek_37 (by decide) ?_
  refine z_aload_n C dX0_peek_39 2 rfl ?_
  refine z_get C hinX0 (ci := 2) rfl 5 rfl 1 (by decide) k0 rfl (v := vI ps) rfl dX0_peek_40 ?_
  refine z_bipush C (z := 8) dX0_peek_43 (by decide) ?_
  refine z_irem C dX0_peek_45 (by omega) (by decide) ?_
  refine z_isub C dX0_peek_46 ?_
  refine z_iload_n C dX0_peek_47 3 rfl ?_
  refine z_isub C dX0_peek_48 ?_
  refine z_ishr C (((24 - (ps % 8)) - n).toNat) dX0_peek_49 (by omega) (by omega) (by omega) ?_
  refine z_iconst C (z := 1) dX0_peek_50 ?_
  refine z_iload_n C dX0_peek_51 3 rfl ?_
  refine z_ishl C n.toNat dX0_peek_52 (by omega) (by omega) ?_
  refine z_iconst C (z := 1) dX0_peek_53 ?_
  refine z_isub C dX0_peek_54 ?_
  refine z_iand C n.toNat dX0_peek_55 (by omega) (by rw [Int.one_mul]) ?_
  refine z_iret (x := ((((((byC bt sz (ps / 8)) * 2 ^ 16) + ((byC bt sz ((ps / 8) + 1)) * 2 ^ 8)) + (byC bt sz ((ps / 8) + 2))) / 2 ^ ((24 - (ps % 8)) - n).toNat) % 2 ^ n.toNat)) C dX0_peek_56 () ?_ ?_ ?_ (by decide) (by decide)
  · exact rfl
  · exact trivial
  · exact rfl
def obC (ou : Nat → Int) (co i : Int) : Int := if 0 ≤ i ∧ i < (on co : Int) then ou i.toNat % 256 else 0
theorem kn_X1_restart : zKn yX1_restart wsX1_restart cX1_restart 1 (none) 0 := ⟨⟨_, rfl⟩, by decide +kernel, by decide +kernel, by decide +kernel⟩
set_option maxHeartbeats 400000 in
set_option maxRecDepth 100000 in
theorem c_X1_restart (l : Launch) (D : va_G) (cy : Nat → ClassId) (tw : Nat → Nat) (a : Nat → Nat) (kd : Int) (co : Int) (mk : Bool) (al : Bool) (dz : Bool) (rd : Bool) (rw : Int) (wo : Nat → BitVec 64) (sa : Nat → Int) (sz : Int) (ps : Int) (bt : Nat → Int) (ou : Nat → Int) (bi : Int) (dm : Int) (pl : Bool) (re : Int) (cu : Bool)    : zMet l yX1_restart wsX1_restart { frames := 0, cells := 0, slots := 0, locals := 0 } D (zT cy) tw (CW cy a kd co mk al dz rd rw wo sa sz ps bt ou bi dm pl re cu) [.ref (a 6)] 0 0 (S := Unit) (fun _ => none) (fun _ => CW cy a kd co mk al dz rd rw wo sa sz ps bt ou 0 dm pl re cu) (fun _ => True) := by
  refine z_met (cc := cX1_restart) (nL := 1) (ret := none) (by decide +kernel) rfl (Nat.le_of_ble_eq_true rfl) (lv := [(0, .ref (a 6))]) rfl ?_
  intro V p_ e_ s_ m_ args_ below_ meth_ c_ A_ C hmn
  have hinX1 : ∀ w ∈ u_ws RX1 TX1 2, w ∈ wsX1_restart := by decide +kernel
  have k0 : Cond.fieldLink RX1 15 "FaxFilter$BitsOut" "bits" "I" ∈ wsX1_restart := List.mem_of_getElem? (i := 1) rfl
  refine z_aload_n C dX1_restart_0 0 rfl ?_
  refine z_iconst C (z := 0) dX1_restart_1 ?_
  refine z_put C hinX1 tyX1 tyX1_ok nmX1 (ci := 3) rfl 6 rfl 1 (by decide) k0 rfl rfl rfl rfl (Nat.le_of_ble_eq_true rfl) dX1_restart_2 (ws' := CW cy a kd co mk al dz rd rw wo sa sz ps bt ou 0 dm pl re cu) rfl ?_
  refine z_vret C dX1_restart_5 () ?_ ?_ ?_ (by decide) (by decide)
  · exact rfl
  · exact trivial
  · exact rfl
theorem kn_X1_size : zKn yX1_size wsX1_size cX1_size 1 (some .int) 0 := ⟨⟨_, rfl⟩, by decide +kernel, by decide +kernel, by decide +kernel⟩
set_option maxHeartbeats 400000 in
set_option maxRecDepth 100000 in
theorem c_X1_size (l : Launch) (D : va_G) (cy : Nat → ClassId) (tw : Nat → Nat) (a : Nat → Nat) (kd : Int) (co : Int) (mk : Bool) (al : Bool) (dz : Bool) (rd : Bool) (rw : Int) (wo : Nat → BitVec 64) (sa : Nat → Int) (sz : Int) (ps : Int) (bt : Nat → Int) (ou : Nat → Int) (bi : Int) (dm : Int) (pl : Bool) (re : Int) (cu : Bool)   (h0 : 0 ≤ bi ∧ bi ≤ 200000) : zMet l yX1_size wsX1_size { frames := 0, cells := 0, slots := 0, locals := 0 } D (zT cy) tw (CW cy a kd co mk al dz rd rw wo sa sz ps bt ou bi dm pl re cu) [.ref (a 6)] 0 0 (S := Unit) (fun _ => some (vI ((bi + 7) / 8))) (fun _ => CW cy a kd co mk al dz rd rw wo sa sz ps bt ou bi dm pl re cu) (fun _ => True) := by
  refine z_met (cc := cX1_size) (nL := 1) (ret := some .int) (by decide +kernel) rfl (Nat.le_of_ble_eq_true rfl) (lv := [(0, .ref (a 6))]) rfl ?_
  intro V p_ e_ s_ m_ args_ below_ meth_ c_ A_ C hmn
  have hinX1 : ∀ w ∈ u_ws RX1 TX1 2, w ∈ wsX1_size := by decide +kernel
  have k0 : Cond.fieldLink RX1 15 "FaxFilter$BitsOut" "bits" "I" ∈ wsX1_size := List.mem_of_getElem? (i := 1) rfl
  refine z_aload_n C dX1_size_0 0 rfl ?_
  refine z_get C hinX1 (ci := 3) rfl 6 rfl 1 (by decide) k0 rfl (v := vI bi) rfl dX1_size_1 ?_
  refine z_bipush C (z := 7) dX1_size_4 (by decide) ?_
  refine z_iadd C dX1_size_6 ?_
  refine z_bipush C (z := 8) dX1_size_7 (by decide) ?_
  refine z_idiv C dX1_size_9 (by omega) (by decide) ?_
  refine z_iret (x := ((bi + 7) / 8)) C dX1_size_10 () ?_ ?_ ?_ (by decide) (by decide)
  · exact rfl
  · exact trivial
  · exact rfl
theorem kn_X1_byteAt : zKn yX1_byteAt wsX1_byteAt cX1_byteAt 2 (some .int) 1 := ⟨⟨_, rfl⟩, by decide +kernel, by decide +kernel, by decide +kernel⟩
set_option maxHeartbeats 400000 in
set_option maxRecDepth 100000 in
theorem c_X1_byteAt (l : Launch) (D : va_G) (cy : Nat → ClassId) (tw : Nat → Nat) (a : Nat → Nat) (kd : Int) (co : Int) (mk : Bool) (al : Bool) (dz : Bool) (rd : Bool) (rw : Int) (wo : Nat → BitVec 64) (sa : Nat → Int) (sz : Int) (ps : Int) (bt : Nat → Int) (ou : Nat → Int) (bi : Int) (dm : Int) (pl : Bool) (re : Int) (cu : Bool) (i : Int)  (hco : 1 ≤ co ∧ co ≤ 700) (h1 : -10 ≤ i ∧ i ≤ 200000) : zMet l yX1_byteAt wsX1_byteAt { frames := 0, cells := 0, slots := 0, locals := 0 } D (zT cy) tw (CW cy a kd co mk al dz rd rw wo sa sz ps bt ou bi dm pl re cu) [.ref (a 6), vI i] 0 0 (S := Unit) (fun _ => some (vI (obC ou co i))) (fun _ => CW cy a kd co mk al dz rd rw wo sa sz ps bt ou bi dm pl re cu) (fun _ => True) := by
  refine z_met (cc := cX1_byteAt) (nL := 2) (ret := some .int) (by decide +kernel) rfl (Nat.le_of_ble_eq_true rfl) (lv := [(0, .ref (a 6)), (1, vI i)]) rfl ?_
  intro V p_ e_ s_ m_ args_ below_ meth_ c_ A_ C hmn
  have hinX1 : ∀ w ∈ u_ws RX1 TX1 2, w ∈ wsX1_byteAt := by decide +kernel
  have k0 : Cond.fieldLink RX1 9 "FaxFilter$BitsOut" "bytes" "[B" ∈ wsX1_byteAt := List.mem_of_getElem? (i := 1) rfl
  have hon := on_eq hco.1
  refine z_iload_n C dX1_byteAt_0 1 rfl ?_
  refine z_if_lt C (by omega) (tgt := 26) dX1_byteAt_1 (by decide) (fun c1 => ?_) (fun c1 => ?_)
  · refine z_iconst C (z := 0) dX1_byteAt_26 ?_
    refine z_iret (x := 0) C dX1_byteAt_27 () ?_ ?_ ?_ (by decide) (by decide)
    · (simp only [obC]; first | rw [if_neg (by omega)] | rw [if_pos (by omega), sb_mod8])
    · exact trivial
    · exact rfl
  · refine z_iload_n C dX1_byteAt_4 1 rfl ?_
    refine z_aload_n C dX1_byteAt_5 0 rfl ?_
    refine z_get C hinX1 (ci := 3) rfl 6 rfl 0 (by decide) k0 rfl (v := .ref (a 20)) rfl dX1_byteAt_6 ?_
    refine z_alen C 20 0 rfl rfl (N := on co) rfl dX1_byteAt_9 ?_
    refine z_icmp_ge C (by omega) (by omega) (tgt := 26) dX1_byteAt_10 (by decide) (fun c2 => ?_) (fun c2 => ?_)
    · refine z_iconst C (z := 0) dX1_byteAt_26 ?_
      refine z_iret (x := 0) C dX1_byteAt_27 () ?_ ?_ ?_ (by decide) (by decide)
      · (simp only [obC]; first | rw [if_neg (by omega)] | rw [if_pos (by omega), sb_mod8])
      · exact trivial
      · exact rfl
    · refine z_aload_n C dX1_byteAt_13 0 rfl ?_
      refine z_get C hinX1 (ci := 3) rfl 6 rfl 0 (by decide) k0 rfl (v := .ref (a 20)) rfl dX1_byteAt_14 ?_
      refine z_iload_n C dX1_byteAt_17 1 rfl ?_
      refine z_bald C 20 0 (g := ou) rfl rfl (by omega) (by omega) (by omega) dX1_byteAt_18 ?_
      refine z_sipush C (z := 255) dX1_byteAt_19 (by decide) ?_
      refine z_iand C 8 dX1_byteAt_22 (by decide) (by decide) ?_
      refine z_goto C (tgt := 27) dX1_byteAt_23 (by decide) ?_
      refine z_iret (x := ((sb (ou (i : Int).toNat)) % 2 ^ 8)) C dX1_byteAt_27 () ?_ ?_ ?_ (by decide) (by decide)
      · (simp only [obC]; first | rw [if_neg (by omega)] | rw [if_pos (by omega), sb_mod8])
      · exact trivial
      · exact rfl
def sendA (o : Nat → Int) (b v : Int) : Nat → (Nat → Int)
  | 0 => o
  | n + 1 => sendA (va_up o (b / 8).toNat (sb ((if b % 8 = 0 then 0 else sb (o (b / 8).toNat)) + v / 2 ^ n % 2 ^ 1 * 2 ^ (7 - b % 8).toNat))) (b + 1) v n
def clean (o : Nat → Int) (b : Int) : Prop := b % 8 = 0 ∨ ∃ a : Int, sb (o (b / 8).toNat) = a * 2 ^ (8 - b % 8).toNat
theorem bit_lt {x : Int} (hx : x = 0 ∨ x = 1) (k : Nat) : 0 ≤ x * 2 ^ k ∧ x * 2 ^ k < 2 ^ (k + 1) := by
  have h : (1 : Int) ≤ 2 ^ k := by
    rw [show (2 : Int) ^ k = ((2 ^ k : Nat) : Int) by rw [Int.natCast_pow]; rfl]
    have : 1 ≤ 2 ^ k := Nat.one_le_two_pow
    omega
  rw [Int.pow_succ]
  rcases hx with rfl | rfl <;> omega
theorem clean_up {o : Nat → Int} {b x : Int} (h0 : 0 ≤ b) (ho : clean o b) (hx : x = 0 ∨ x = 1) : clean (va_up o (b / 8).toNat (sb ((if b % 8 = 0 then 0 else sb (o (b / 8).toNat)) + x * 2 ^ (7 - b % 8).toNat))) (b + 1) := by
  by_cases h7 : b % 8 = 7
  · exact Or.inl (by omega)
  · right
    rw [show (b + 1) / 8 = b / 8 by omega, va_up, if_pos rfl]
    obtain ⟨j, hj, hj7⟩ : ∃ j : Nat, b % 8 = (j : Int) ∧ j < 7 := ⟨(b % 8).toNat, by omega, by omega⟩
    have e1 : (b + 1) % 8 = (j : Int) + 1 := by omega
    rw [e1, show (8 - ((j : Int) + 1)).toNat = 7 - j by omega, hj, show (7 - (j : Int)).toNat = 7 - j by omega]
    have hd : ∃ q : Int, (256 : Int) = q * 2 ^ (7 - j) := ⟨2 ^ (j + 1), by
      rw [← Int.pow_add, show j + 1 + (7 - j) = 8 by omega]; rfl⟩
    obtain ⟨q, hq⟩ := hd
    have key : ∃ a : Int, (if (j : Int) = 0 then 0 else sb (o (b / 8).toNat)) + x * 2 ^ (7 - j) = a * 2 ^ (7 - j) := by
      by_cases hz : (j : Int) = 0
      · rw [if_pos hz]; exact ⟨x, by omega⟩
      · rw [if_neg hz]
        rcases ho with ho | ⟨a, ho⟩
        · omega
        · rw [ho, hj, show (8 - (j : Int)).toNat = (7 - j) + 1 by omega, Int.pow_succ]
          exact ⟨a * 2 + x, by rw [Int.add_mul, Int.mul_assoc, Int.mul_comm 2]⟩
    obtain ⟨a, ha⟩ := key
    rw [ha]
    refine ⟨a - (a * 2 ^ (7 - j) + 128) / 256 * q, ?_⟩
    unfold sb
    have hs : ∀ y : Int, sb (sb y) = sb y := fun y => by unfold sb; omega
    have h2 := Int.emod_add_mul_ediv (a * 2 ^ (7 - j) + 128) 256
    rw [Int.sub_mul, Int.mul_assoc, ← hq]
    omega
theorem kn_X1_send : zKn yX1_send wsX1_send cX1_send 7 (none) 2 := ⟨⟨_, rfl⟩, by decide +kernel, by decide +kernel, by decide +kernel⟩
set_option maxHeartbeats 400000 in
set_option maxRecDepth 100000 in
theorem c_X1_send (l : Launch) (D : va_G) (cy : Nat → ClassId) (tw : Nat → Nat) (a : Nat → Nat) (kd : Int) (co : Int) (mk : Bool) (al : Bool) (dz : Bool) (rd : Bool) (rw : Int) (wo : Nat → BitVec 64) (sa : Nat → Int) (sz : Int) (ps : Int) (bt : Nat → Int) (ou : Nat → Int) (bi : Int) (dm : Int) (pl : Bool) (re : Int) (cu : Bool) (v : Int) (n : Int)  (hco : 1 ≤ co ∧ co ≤ 700) (h1 : 0 ≤ v ∧ v ≤ 65535) (h2 : 0 ≤ n ∧ n ≤ 16) (h3 : 0 ≤ bi ∧ bi + n ≤ 8 * (on co : Int)) (hcl : clean ou bi) : zMet l yX1_send wsX1_send { frames := 0, cells := 0, slots := 0, locals := 0 } D (zT cy) tw (CW cy a kd co mk al dz rd rw wo sa sz ps bt ou bi dm pl re cu) [.ref (a 6), vI v, vI n] 0 0 (S := Unit) (fun _ => none) (fun _ => CW cy a kd co mk al dz rd rw wo sa sz ps bt (sendA ou bi v (n : Int).toNat) (bi + n) dm pl re cu) (fun _ => True) := by
  refine z_met (cc := cX1_send) (nL := 7) (ret := none) (by decide +kernel) rfl (Nat.le_of_ble_eq_true rfl) (lv := [(0, .ref (a 6)), (1, vI v), (2, vI n)]) rfl ?_
  intro V p_ e_ s_ m_ args_ below_ meth_ c_ A_ C hmn
  have hinX1 : ∀ w ∈ u_ws RX1 TX1 2, w ∈ wsX1_send := by decide +kernel
  have k0 : Cond.fieldLink RX1 15 "FaxFilter$BitsOut" "bits" "I" ∈ wsX1_send := List.mem_of_getElem? (i := 1) rfl
  have k1 : Cond.fieldLink RX1 9 "FaxFilter$BitsOut" "bytes" "[B" ∈ wsX1_send := List.mem_of_getElem? (i := 2) rfl
  have hon := on_eq hco.1
  refine z_iload_n C dX1_send_0 2 rfl ?_
  refine z_iconst C (z := 1) dX1_send_1 ?_
  refine z_isub C dX1_send_2 ?_
  refine z_istore_n C (lv' := [(3, vI (n - 1)), (0, .ref (a 6)), (1, vI v), (2, vI n)]) dX1_send_3 rfl (by decide) rfl ?_
  have J4 : ∀ (f : Nat) (o : Nat → Int) (b : Int) (i : Int), -1 ≤ i ∧ i < n → 0 ≤ b ∧ b + i + 1 = bi + n → clean o b → sendA ou bi v n.toNat = sendA o b v (i + 1).toNat → (i + 1).toNat < f → V 0 0 (CW cy a kd co mk al dz rd rw wo sa sz ps bt o b dm pl re cu) [(0, .ref (a 6)), (1, vI v), (2, vI n), (3, vI i)] [] 4 := by
    intro f
    induction f with
    | zero => intro o b i i0 i1 i2 i3 hf; exact absurd hf (Nat.not_lt_zero _)
    | succ f ih =>
      intro o b i i0 i1 i2 i3 hf
      refine z_iload_n C dX1_send_4 3 rfl ?_
      refine z_if_lt C (by omega) (tgt := 99) dX1_send_5 (by decide) (fun c1 => ?_) (fun c1 => ?_)
      · refine z_vret C dX1_send_99 () ?_ ?_ ?_ (by decide) (by decide)
        · exact rfl
        · exact trivial
        · rw [i3, show (i + 1).toNat = 0 by omega, sendA, show bi + n = b by omega]
      · refine z_aload_n C dX1_send_8 0 rfl ?_
        refine z_get C hinX1 (ci := 3) rfl 6 rfl 1 (by decide) k0 rfl (v := vI b) rfl dX1_send_9 ?_
        refine z_bipush C (z := 8) dX1_send_12 (by decide) ?_
        refine z_idiv C dX1_send_14 (by omega) (by decide) ?_
        refine z_istore C (lv' := [(4, vI (b / 8)), (0, .ref (a 6)), (1, vI v), (2, vI n), (3, vI i)]) dX1_send_15 (by decide) rfl ?_
        refine z_bipush C (z := 7) dX1_send_17 (by decide) ?_
        refine z_aload_n C dX1_send_19 1 rfl ?_
        refine z_get C hinX1 (ci := 3) rfl 6 rfl 1 (by decide) k0 rfl (v := vI b) rfl dX1_send_20 ?_
        refine z_bipush C (z := 8) dX1_send_23 (by decide) ?_
        refine z_irem C dX1_send_25 (by omega) (by decide) ?_
        refine z_isub C dX1_send_26 ?_
        refine z_istore C (lv' := [(5, vI (7 - (b % 8))), (4, vI (b / 8)), (0, .ref (a 6)), (1, vI v), (2, vI n), (3, vI i)]) dX1_send_27 (by decide) rfl ?_
        refine z_iload C dX1_send_29 1 rfl ?_
        refine z_if_lt C (by omega) (tgt := 93) dX1_send_31 (by decide) (fun c2 => ?_) (fun c2 => ?_)
        · exfalso; omega
        · refine z_iload C dX1_send_34 1 rfl ?_
          refine z_aload_n C dX1_send_36 2 rfl ?_
          refine z_get C hinX1 (ci := 3) rfl 6 rfl 0 (by decide) k1 rfl (v := .ref (a 20)) rfl dX1_send_37 ?_
          refine z_alen C 20 0 rfl rfl (N := on co) rfl dX1_send_40 ?_
          refine z_icmp_ge C (by omega) (by omega) (tgt := 93) dX1_send_41 (by decide) (fun c3 => ?_) (fun c3 => ?_)
          · exfalso; omega
          · refine z_iload C dX1_send_44 0 rfl ?_
            refine z_bipush C (z := 7) dX1_send_46 (by decide) ?_
            refine z_icmp_ne C (by omega) (by decide) (tgt := 55) dX1_send_48 (by decide) (fun c4 => ?_) (fun c4 => ?_)
            · refine z_aload_n C dX1_send_55 2 rfl ?_
              refine z_get C hinX1 (ci := 3) rfl 6 rfl 0 (by decide) k1 rfl (v := .ref (a 20)) rfl dX1_send_56 ?_
              refine z_iload C dX1_send_59 1 rfl ?_
              have hsb := sb_rg (o (b / 8).toNat)
              refine z_bald C 20 0 (g := o) rfl rfl (by omega) (by omega) (by omega) dX1_send_61 ?_
              refine z_istore C (lv' := [(6, vI (sb (o (b / 8 : Int).toNat))), (5, vI (7 - (b % 8))), (4, vI (b / 8)), (0, .ref (a 6)), (1, vI v), (2, vI n), (3, vI i)]) dX1_send_62 (by decide) rfl ?_
              refine z_aload_n C dX1_send_64 3 rfl ?_
              refine z_get C hinX1 (ci := 3) rfl 6 rfl 0 (by decide) k1 rfl (v := .ref (a 20)) rfl dX1_send_65 ?_
              refine z_iload C dX1_send_68 2 rfl ?_
              refine z_iload C dX1_send_70 0 rfl ?_
              refine z_iload_n C dX1_send_72 4 rfl ?_
              refine z_iload_n C dX1_send_73 6 rfl ?_
              refine z_ishr C i.toNat dX1_send_74 (by omega) (by omega) (by omega) ?_
              refine z_iconst C (z := 1) dX1_send_75 ?_
              refine z_iand C 1 dX1_send_76 (by decide) (by decide) ?_
              refine z_iload C dX1_send_77 1 rfl ?_
              refine z_ishl C ((7 - (b % 8)).toNat) dX1_send_79 (by omega) (by omega) ?_
              refine z_ior C (Classical.choose (i2.resolve_left (by omega))) ((7 - b % 8).toNat + 1) dX1_send_80 (by omega) (by rw [show (7 - b % 8).toNat + 1 = (8 - b % 8).toNat by omega]; exact Classical.choose_spec (i2.resolve_left (by omega))) (bit_lt (by omega) _) ?_
              refine z_i2b C dX1_send_81 ?_
              refine z_bast C 20 0 (g := o) rfl rfl (by omega) (by omega) (by omega) dX1_send_82 (ws' := CW cy a kd co mk al dz rd rw wo sa sz ps bt (va_up o (b / 8 : Int).toNat (sb ((sb (o (b / 8 : Int).toNat)) + (((v / 2 ^ i.toNat) % 2 ^ 1) * 2 ^ (7 - (b % 8)).toNat)))) b dm pl re cu) rfl ?_
              refine z_aload_n C dX1_send_83 3 rfl ?_
              refine z_dup C dX1_send_84 rfl ?_
              refine z_get C hinX1 (ci := 3) rfl 6 rfl 1 (by decide) k0 rfl (v := vI b) rfl dX1_send_85 ?_
              refine z_iconst C (z := 1) dX1_send_88 ?_
              refine z_iadd C dX1_send_89 ?_
              refine z_put C hinX1 tyX1 tyX1_ok nmX1 (ci := 3) rfl 6 rfl 1 (by decide) k0 rfl rfl rfl rfl (Nat.le_of_ble_eq_true rfl) dX1_send_90 (ws' := CW cy a kd co mk al dz rd rw wo sa sz ps bt (va_up o (b / 8 : Int).toNat (sb ((sb (o (b / 8 : Int).toNat)) + (((v / 2 ^ i.toNat) % 2 ^ 1) * 2 ^ (7 - (b % 8)).toNat)))) (b + 1) dm pl re cu) rfl ?_
              refine z_iinc C (lv' := [(3, vI (i + (-1))), (6, vI (sb (o (b / 8 : Int).toNat))), (5, vI (7 - (b % 8))), (4, vI (b / 8)), (0, .ref (a 6)), (1, vI v), (2, vI n)]) dX1_send_93 6 rfl (by decide) rfl ?_
              refine z_goto C (tgt := 4) dX1_send_96 (by decide) ?_
              refine z_lsub C [4, 5, 6, 0] rfl ?_
              exact ih (va_up o (b / 8 : Int).toNat (sb ((sb (o (b / 8 : Int).toNat)) + (((v / 2 ^ i.toNat) % 2 ^ 1) * 2 ^ (7 - (b % 8)).toNat)))) (b + 1) (i + (-1)) (by omega) (by omega) (by have := clean_up (x := v / 2 ^ i.toNat % 2 ^ 1) i1.1 i2 (by omega); rw [if_neg (by omega)] at this; exact this) (by rw [i3, show (i + 1).toNat = i.toNat + 1 by omega, sendA, if_neg (by omega), show i + -1 + 1 = i by omega]) (by omega)
            · refine z_iconst C (z := 0) dX1_send_51 ?_
              refine z_goto C (tgt := 62) dX1_send_52 (by decide) ?_
              refine z_istore C (lv' := [(6, vI 0), (5, vI (7 - (b % 8))), (4, vI (b / 8)), (0, .ref (a 6)), (1, vI v), (2, vI n), (3, vI i)]) dX1_send_62 (by decide) rfl ?_
              refine z_aload_n C dX1_send_64 3 rfl ?_
              refine z_get C hinX1 (ci := 3) rfl 6 rfl 0 (by decide) k1 rfl (v := .ref (a 20)) rfl dX1_send_65 ?_
              refine z_iload C dX1_send_68 2 rfl ?_
              refine z_iload C dX1_send_70 0 rfl ?_
              refine z_iload_n C dX1_send_72 4 rfl ?_
              refine z_iload_n C dX1_send_73 6 rfl ?_
              refine z_ishr C i.toNat dX1_send_74 (by omega) (by omega) (by omega) ?_
              refine z_iconst C (z := 1) dX1_send_75 ?_
              refine z_iand C 1 dX1_send_76 (by decide) (by decide) ?_
              refine z_iload C dX1_send_77 1 rfl ?_
              refine z_ishl C ((7 - (b % 8)).toNat) dX1_send_79 (by omega) (by omega) ?_
              refine z_ior C (0) ((7 - b % 8).toNat + 1) dX1_send_80 (by omega) ((Int.zero_mul _).symm) (bit_lt (by omega) _) ?_
              refine z_i2b C dX1_send_81 ?_
              refine z_bast C 20 0 (g := o) rfl rfl (by omega) (by omega) (by omega) dX1_send_82 (ws' := CW cy a kd co mk al dz rd rw wo sa sz ps bt (va_up o (b / 8 : Int).toNat (sb (0 + (((v / 2 ^ i.toNat) % 2 ^ 1) * 2 ^ (7 - (b % 8)).toNat)))) b dm pl re cu) rfl ?_
              refine z_aload_n C dX1_send_83 3 rfl ?_
              refine z_dup C dX1_send_84 rfl ?_
              refine z_get C hinX1 (ci := 3) rfl 6 rfl 1 (by decide) k0 rfl (v := vI b) rfl dX1_send_85 ?_
              refine z_iconst C (z := 1) dX1_send_88 ?_
              refine z_iadd C dX1_send_89 ?_
              refine z_put C hinX1 tyX1 tyX1_ok nmX1 (ci := 3) rfl 6 rfl 1 (by decide) k0 rfl rfl rfl rfl (Nat.le_of_ble_eq_true rfl) dX1_send_90 (ws' := CW cy a kd co mk al dz rd rw wo sa sz ps bt (va_up o (b / 8 : Int).toNat (sb (0 + (((v / 2 ^ i.toNat) % 2 ^ 1) * 2 ^ (7 - (b % 8)).toNat)))) (b + 1) dm pl re cu) rfl ?_
              refine z_iinc C (lv' := [(3, vI (i + (-1))), (6, vI 0), (5, vI (7 - (b % 8))), (4, vI (b / 8)), (0, .ref (a 6)), (1, vI v), (2, vI n)]) dX1_send_93 6 rfl (by decide) rfl ?_
              refine z_goto C (tgt := 4) dX1_send_96 (by decide) ?_
              refine z_lsub C [4, 5, 6, 0] rfl ?_
              exact ih (va_up o (b / 8 : Int).toNat (sb (0 + (((v / 2 ^ i.toNat) % 2 ^ 1) * 2 ^ (7 - (b % 8)).toNat)))) (b + 1) (i + (-1)) (by omega) (by omega) (by have := clean_up (x := v / 2 ^ i.toNat % 2 ^ 1) i1.1 i2 (by omega); rw [if_pos (by omega)] at this; exact this) (by rw [i3, show (i + 1).toNat = i.toNat + 1 by omega, sendA, if_pos (by omega), show i + -1 + 1 = i by omega]) (by omega)
  refine z_lsub C [1, 2, 3, 0] rfl ?_
  exact J4 _ ou bi (n - 1) (by omega) (by omega) (hcl) (by rw [show n - 1 + 1 = n by omega]) (Nat.lt_succ_self _)
theorem kn_X1_alignFor : zKn yX1_alignFor wsX1_alignFor cX1_alignFor 2 (none) 1 := ⟨⟨_, rfl⟩, by decide +kernel, by decide +kernel, by decide +kernel⟩
set_option maxHeartbeats 400000 in
set_option maxRecDepth 100000 in
theorem c_X1_alignFor (l : Launch) (D : va_G) (cy : Nat → ClassId) (tw : Nat → Nat) (a : Nat → Nat) (kd : Int) (co : Int) (mk : Bool) (al : Bool) (dz : Bool) (rd : Bool) (rw : Int) (wo : Nat → BitVec 64) (sa : Nat → Int) (sz : Int) (ps : Int) (bt : Nat → Int) (ou : Nat → Int) (bi : Int) (dm : Int) (pl : Bool) (re : Int) (cu : Bool) (m : Int)  (hco : 1 ≤ co ∧ co ≤ 700) (h1 : 0 ≤ m ∧ m ≤ 100) (h3 : 0 ≤ bi ∧ bi + 7 ≤ 8 * (on co : Int)) (hcl : clean ou bi) : zMet l yX1_alignFor wsX1_alignFor { frames := 1, cells := 0, slots := 0, locals := 26 } D (zT cy) tw (CW cy a kd co mk al dz rd rw wo sa sz ps bt ou bi dm pl re cu) [.ref (a 6), vI m] 0 0 (S := Unit) (fun _ => none) (fun _ => CW cy a kd co mk al dz rd rw wo sa sz ps bt (sendA ou bi 0 (-(bi + m) % 2 ^ 3 : Int).toNat) (bi + (-(bi + m) % 2 ^ 3)) dm pl re cu) (fun _ => True) := by
  refine z_met (cc := cX1_alignFor) (nL := 2) (ret := none) (by decide +kernel) rfl (Nat.le_of_ble_eq_true rfl) (lv := [(0, .ref (a 6)), (1, vI m)]) rfl ?_
  intro V p_ e_ s_ m_ args_ below_ meth_ c_ A_ C hmn
  have hinX1 : ∀ w ∈ u_ws RX1 TX1 2, w ∈ wsX1_alignFor := by decide +kernel
  have k0 : Cond.fieldLink RX1 15 "FaxFilter$BitsOut" "bits" "I" ∈ wsX1_alignFor := List.mem_of_getElem? (i := 1) rfl
  have hon := on_eq hco.1
  refine z_aload_n C dX1_alignFor_0 0 rfl ?_
  refine z_iconst C (z := 0) dX1_alignFor_1 ?_
  refine z_aload_n C dX1_alignFor_2 0 rfl ?_
  refine z_get C hinX1 (ci := 3) rfl 6 rfl 1 (by decide) k0 rfl (v := vI bi) rfl dX1_alignFor_3 ?_
  refine z_iload_n C dX1_alignFor_6 1 rfl ?_
  refine z_iadd C dX1_alignFor_7 ?_
  refine z_ineg C dX1_alignFor_8 ?_
  refine z_bipush C (z := 7) dX1_alignFor_9 (by decide) ?_
  refine z_iand C 3 dX1_alignFor_11 (by decide) (by decide) ?_
  refine z_callV C (As := [vI 0, vI ((-(bi + m)) % 2 ^ 3)]) (st := []) (c_X1_send l D cy tw a kd co mk al dz rd rw wo sa sz ps bt ou bi dm pl re cu 0 ((-(bi + m)) % 2 ^ 3)  (by omega) (by omega) (by omega) (by omega) (hcl)) gX1_alignFor_X1_send kn_X1_send rfl ⟨rfl, rfl, Nat.le_of_ble_eq_true rfl, Nat.le_of_ble_eq_true rfl⟩ 6 rfl (ci := 3) rfl rfl (Nat.le_of_ble_eq_true rfl) ⟨Nat.le_of_ble_eq_true rfl, Nat.le_of_ble_eq_true rfl⟩ dX1_alignFor_12 (fun u1 hu1 => ?_)
  clear hu1; clear u1
  show V 0 0 (CW cy a kd co mk al dz rd rw wo sa sz ps bt (sendA ou bi 0 (((-(bi + m)) % 2 ^ 3) : Int).toNat) (bi + ((-(bi + m)) % 2 ^ 3)) dm pl re cu) [(0, .ref (a 6)), (1, vI m)] [] 15
  refine z_vret C dX1_alignFor_15 () ?_ ?_ ?_ (by decide) (by decide)
  · exact rfl
  · exact trivial
  · exact rfl
def sltC (r : Int) : Int := if 0 ≤ r ∧ r < 64 then r else if 64 ≤ r ∧ r ≤ 640 ∧ r % 64 = 0 then 63 + r / 64 else -2
def runN (s : Int) : Int := if s < 64 then s else (s - 64 + 1) * 64
def lenC (d : Bool) (s : Int) : Int := if 0 ≤ s ∧ s < 74 then tB d s.toNat else 0
def codC (d : Bool) (s : Int) : Int := if 0 ≤ s ∧ s < 74 then tC d s.toNat else 0
def sbg (d : Bool) (t r : Int) : Int := if r < 74 then (if tF d r.toNat ≤ t then tO d r.toNat else sbg d t (r + 1)) else -2
termination_by (74 - r).toNat
decreasing_by omega
theorem sbg_hit {d : Bool} {t r : Int} (h : r < 74) (h2 : tF d r.toNat ≤ t) : sbg d t r = tO d r.toNat := by rw [sbg, if_pos h, if_pos h2]
theorem sbg_next {d : Bool} {t r : Int} (h : r < 74) (h2 : ¬ tF d r.toNat ≤ t) : sbg d t r = sbg d t (r + 1) := by rw [sbg, if_pos h, if_neg h2]
theorem sbg_end {d : Bool} {t r : Int} (h : 74 ≤ r) : sbg d t r = -2 := by rw [sbg, if_neg (by omega)]
theorem tab_rg : ∀ (d : Bool) (j : Nat), j < 74 → (0 ≤ tF d j ∧ tF d j < 4096) ∧ (0 ≤ tO d j ∧ tO d j < 74) ∧ (2 ≤ tB d j ∧ tB d j ≤ 12) ∧ (0 ≤ tC d j ∧ tC d j < 4096) := by decide +kernel
theorem kn_X6_slotOfMake : zKn yX6_slotOfMake wsX6_slotOfMake cX6_slotOfMake 1 (some .int) 1 := ⟨⟨_, rfl⟩, by decide +kernel, by decide +kernel, by decide +kernel⟩
set_option maxHeartbeats 400000 in
set_option maxRecDepth 100000 in
theorem c_X6_slotOfMake (l : Launch) (D : va_G) (cy : Nat → ClassId) (tw : Nat → Nat) (a : Nat → Nat) (kd : Int) (co : Int) (mk : Bool) (al : Bool) (dz : Bool) (rd : Bool) (rw : Int) (wo : Nat → BitVec 64) (sa : Nat → Int) (sz : Int) (ps : Int) (bt : Nat → Int) (ou : Nat → Int) (bi : Int) (dm : Int) (pl : Bool) (re : Int) (cu : Bool) (r : Int)  (h1 : 0 ≤ r ∧ r ≤ 100000) : zMet l yX6_slotOfMake wsX6_slotOfMake { frames := 0, cells := 0, slots := 0, locals := 0 } D (zT cy) tw (CW cy a kd co mk al dz rd rw wo sa sz ps bt ou bi dm pl re cu) [vI r] 0 0 (S := Unit) (fun _ => some (vI (63 + r / 64))) (fun _ => CW cy a kd co mk al dz rd rw wo sa sz ps bt ou bi dm pl re cu) (fun _ => True) := by
  refine z_met (cc := cX6_slotOfMake) (nL := 1) (ret := some .int) (by decide +kernel) rfl (Nat.le_of_ble_eq_true rfl) (lv := [(0, vI r)]) rfl ?_
  intro V p_ e_ s_ m_ args_ below_ meth_ c_ A_ C hmn
  refine z_bipush C (z := 63) dX6_slotOfMake_0 (by decide) ?_
  refine z_iload_n C dX6_slotOfMake_2 0 rfl ?_
  refine z_bipush C (z := 64) dX6_slotOfMake_3 (by decide) ?_
  refine z_idiv C dX6_slotOfMake_5 (by omega) (by decide) ?_
  refine z_iadd C dX6_slotOfMake_6 ?_
  refine z_iret (x := (63 + (r / 64))) C dX6_slotOfMake_7 () ?_ ?_ ?_ (by decide) (by decide)
  · exact rfl
  · exact trivial
  · exact rfl
theorem kn_X6_slotOf : zKn yX6_slotOf wsX6_slotOf cX6_slotOf 1 (some .int) 1 := ⟨⟨_, rfl⟩, by decide +kernel, by decide +kernel, by decide +kernel⟩
set_option maxHeartbeats 400000 in
set_option maxRecDepth 100000 in
theorem c_X6_slotOf (l : Launch) (D : va_G) (cy : Nat → ClassId) (tw : Nat → Nat) (a : Nat → Nat) (kd : Int) (co : Int) (mk : Bool) (al : Bool) (dz : Bool) (rd : Bool) (rw : Int) (wo : Nat → BitVec 64) (sa : Nat → Int) (sz : Int) (ps : Int) (bt : Nat → Int) (ou : Nat → Int) (bi : Int) (dm : Int) (pl : Bool) (re : Int) (cu : Bool) (r : Int)  (h1 : -2147483648 ≤ r ∧ r < 2147483648) : zMet l yX6_slotOf wsX6_slotOf { frames := 1, cells := 0, slots := 0, locals := 20 } D (zT cy) tw (CW cy a kd co mk al dz rd rw wo sa sz ps bt ou bi dm pl re cu) [vI r] 0 0 (S := Unit) (fun _ => some (vI (sltC r))) (fun _ => CW cy a kd co mk al dz rd rw wo sa sz ps bt ou bi dm pl re cu) (fun _ => True) := by
  refine z_met (cc := cX6_slotOf) (nL := 1) (ret := some .int) (by decide +kernel) rfl (Nat.le_of_ble_eq_true rfl) (lv := [(0, vI r)]) rfl ?_
  intro V p_ e_ s_ m_ args_ below_ meth_ c_ A_ C hmn
  refine z_iload_n C dX6_slotOf_0 0 rfl ?_
  refine z_if_lt C (by omega) (tgt := 11) dX6_slotOf_1 (by decide) (fun c1 => ?_) (fun c1 => ?_)
  · refine z_bipush C (z := (-2)) dX6_slotOf_11 (by decide) ?_
    refine z_iret (x := (-2)) C dX6_slotOf_13 () ?_ ?_ ?_ (by decide) (by decide)
    · (unfold sltC; first | rw [if_pos (by omega)] | rw [if_neg (by omega), if_pos (by omega)] | rw [if_neg (by omega), if_neg (by omega)])
    · exact trivial
    · exact rfl
  · refine z_iload_n C dX6_slotOf_4 0 rfl ?_
    refine z_sipush C (z := 640) dX6_slotOf_5 (by decide) ?_
    refine z_icmp_le C (by omega) (by decide) (tgt := 14) dX6_slotOf_8 (by decide) (fun c2 => ?_) (fun c2 => ?_)
    · refine z_iload_n C dX6_slotOf_14 0 rfl ?_
      refine z_bipush C (z := 64) dX6_slotOf_15 (by decide) ?_
      refine z_icmp_ge C (by omega) (by decide) (tgt := 22) dX6_slotOf_17 (by decide) (fun c3 => ?_) (fun c3 => ?_)
      · refine z_iload_n C dX6_slotOf_22 0 rfl ?_
        refine z_bipush C (z := 64) dX6_slotOf_23 (by decide) ?_
        refine z_irem C dX6_slotOf_25 (by omega) (by decide) ?_
        refine z_if_ne C (by omega) (tgt := 36) dX6_slotOf_26 (by decide) (fun c4 => ?_) (fun c4 => ?_)
        · refine z_bipush C (z := (-2)) dX6_slotOf_36 (by decide) ?_
          refine z_iret (x := (-2)) C dX6_slotOf_38 () ?_ ?_ ?_ (by decide) (by decide)
          · (unfold sltC; first | rw [if_pos (by omega)] | rw [if_neg (by omega), if_pos (by omega)] | rw [if_neg (by omega), if_neg (by omega)])
          · exact trivial
          · exact rfl
        · refine z_iload_n C dX6_slotOf_29 0 rfl ?_
          refine z_callS C (As := [vI r]) (st := []) (c_X6_slotOfMake l D cy tw a kd co mk al dz rd rw wo sa sz ps bt ou bi dm pl re cu r  (by omega)) gX6_slotOf_X6_slotOfMake kn_X6_slotOfMake ⟨rfl, rfl, Nat.le_of_ble_eq_true rfl, Nat.le_of_ble_eq_true rfl⟩ rfl (Nat.le_of_ble_eq_true rfl) ⟨Nat.le_of_ble_eq_true rfl, Nat.le_of_ble_eq_true rfl⟩ dX6_slotOf_30 (fun u5 hu5 => ?_)
          clear hu5; clear u5
          show V 0 0 (CW cy a kd co mk al dz rd rw wo sa sz ps bt ou bi dm pl re cu) [(0, vI r)] [vI (63 + r / 64)] 33
          refine z_goto C (tgt := 38) dX6_slotOf_33 (by decide) ?_
          refine z_iret (x := (63 + r / 64)) C dX6_slotOf_38 () ?_ ?_ ?_ (by decide) (by decide)
          · (unfold sltC; first | rw [if_pos (by omega)] | rw [if_neg (by omega), if_pos (by omega)] | rw [if_neg (by omega), if_neg (by omega)])
          · exact trivial
          · exact rfl
      · refine z_iload_n C dX6_slotOf_20 0 rfl ?_
        refine z_iret (x := r) C dX6_slotOf_21 () ?_ ?_ ?_ (by decide) (by decide)
        · (unfold sltC; first | rw [if_pos (by omega)] | rw [if_neg (by omega), if_pos (by omega)] | rw [if_neg (by omega), if_neg (by omega)])
        · exact trivial
        · exact rfl
    · refine z_bipush C (z := (-2)) dX6_slotOf_11 (by decide) ?_
      refine z_iret (x := (-2)) C dX6_slotOf_13 () ?_ ?_ ?_ (by decide) (by decide)
      · (unfold sltC; first | rw [if_pos (by omega)] | rw [if_neg (by omega), if_pos (by omega)] | rw [if_neg (by omega), if_neg (by omega)])
      · exact trivial
      · exact rfl
theorem kn_X6_runOf : zKn yX6_runOf wsX6_runOf cX6_runOf 1 (some .int) 1 := ⟨⟨_, rfl⟩, by decide +kernel, by decide +kernel, by decide +kernel⟩
set_option maxHeartbeats 400000 in
set_option maxRecDepth 100000 in
theorem c_X6_runOf (l : Launch) (D : va_G) (cy : Nat → ClassId) (tw : Nat → Nat) (a : Nat → Nat) (kd : Int) (co : Int) (mk : Bool) (al : Bool) (dz : Bool) (rd : Bool) (rw : Int) (wo : Nat → BitVec 64) (sa : Nat → Int) (sz : Int) (ps : Int) (bt : Nat → Int) (ou : Nat → Int) (bi : Int) (dm : Int) (pl : Bool) (re : Int) (cu : Bool) (r : Int)  (h1 : 0 ≤ r ∧ r ≤ 1000) : zMet l yX6_runOf wsX6_runOf { frames := 0, cells := 0, slots := 0, locals := 0 } D (zT cy) tw (CW cy a kd co mk al dz rd rw wo sa sz ps bt ou bi dm pl re cu) [vI r] 0 0 (S := Unit) (fun _ => some (vI (runN r))) (fun _ => CW cy a kd co mk al dz rd rw wo sa sz ps bt ou bi dm pl re cu) (fun _ => True) := by
  refine z_met (cc := cX6_runOf) (nL := 1) (ret := some .int) (by decide +kernel) rfl (Nat.le_of_ble_eq_true rfl) (lv := [(0, vI r)]) rfl ?_
  intro V p_ e_ s_ m_ args_ below_ meth_ c_ A_ C hmn
  refine z_iload_n C dX6_runOf_0 0 rfl ?_
  refine z_bipush C (z := 64) dX6_runOf_1 (by decide) ?_
  refine z_icmp_ge C (by omega) (by decide) (tgt := 10) dX6_runOf_3 (by decide) (fun c1 => ?_) (fun c1 => ?_)
  · refine z_iload_n C dX6_runOf_10 0 rfl ?_
    refine z_bipush C (z := 64) dX6_runOf_11 (by decide) ?_
    refine z_isub C dX6_runOf_13 ?_
    refine z_iconst C (z := 1) dX6_runOf_14 ?_
    refine z_iadd C dX6_runOf_15 ?_
    refine z_bipush C (z := 64) dX6_runOf_16 (by decide) ?_
    refine z_imul C dX6_runOf_18 ?_
    refine z_iret (x := (((r - 64) + 1) * 64)) C dX6_runOf_19 () ?_ ?_ ?_ (by decide) (by decide)
    · (unfold runN; first | rw [if_pos (by omega)] | rw [if_neg (by omega)])
    · exact trivial
    · exact rfl
  · refine z_iload_n C dX6_runOf_6 0 rfl ?_
    refine z_goto C (tgt := 19) dX6_runOf_7 (by decide) ?_
    refine z_iret (x := r) C dX6_runOf_19 () ?_ ?_ ?_ (by decide) (by decide)
    · (unfold runN; first | rw [if_pos (by omega)] | rw [if_neg (by omega)])
    · exact trivial
    · exact rfl
theorem kn_X6_bitsOf : zKn yX6_bitsOf wsX6_bitsOf cX6_bitsOf 2 (some .int) 1 := ⟨⟨_, rfl⟩, by decide +kernel, by decide +kernel, by decide +kernel⟩
set_option maxHeartbeats 400000 in
set_option maxRecDepth 100000 in
theorem c_X6_bitsOfW (l : Launch) (D : va_G) (cy : Nat → ClassId) (tw : Nat → Nat) (a : Nat → Nat) (kd : Int) (co : Int) (mk : Bool) (al : Bool) (dz : Bool) (rd : Bool) (rw : Int) (wo : Nat → BitVec 64) (sa : Nat → Int) (sz : Int) (ps : Int) (bt : Nat → Int) (ou : Nat → Int) (bi : Int) (dm : Int) (pl : Bool) (re : Int) (cu : Bool) (r : Int)  (h1 : -10 ≤ r ∧ r ≤ 1000) : zMet l yX6_bitsOf wsX6_bitsOf { frames := 0, cells := 0, slots := 0, locals := 0 } D (zT cy) tw (CW cy a kd co mk al dz rd rw wo sa sz ps bt ou bi dm pl re cu) [.ref (a 3), vI r] 0 0 (S := Unit) (fun _ => some (vI (lenC false r))) (fun _ => CW cy a kd co mk al dz rd rw wo sa sz ps bt ou bi dm pl re cu) (fun _ => True) := by
  refine z_met (cc := cX6_bitsOf) (nL := 2) (ret := some .int) (by decide +kernel) rfl (Nat.le_of_ble_eq_true rfl) (lv := [(0, .ref (a 3)), (1, vI r)]) rfl ?_
  intro V p_ e_ s_ m_ args_ below_ meth_ c_ A_ C hmn
  have hinX6 : ∀ w ∈ u_ws RX6 TX6 4, w ∈ wsX6_bitsOf := by decide +kernel
  have k0 : Cond.fieldLink RX6 11 "FaxFilter$Table" "bits" "[I" ∈ wsX6_bitsOf := List.mem_of_getElem? (i := 1) rfl
  refine z_iload_n C dX6_bitsOf_0 1 rfl ?_
  refine z_if_lt C (by omega) (tgt := 19) dX6_bitsOf_1 (by decide) (fun c1 => ?_) (fun c1 => ?_)
  · refine z_iconst C (z := 0) dX6_bitsOf_19 ?_
    refine z_iret (x := 0) C dX6_bitsOf_20 () ?_ ?_ ?_ (by decide) (by decide)
    · (unfold lenC; first | rw [if_pos (by omega)] | rw [if_neg (by omega)])
    · exact trivial
    · exact rfl
  · refine z_iload_n C dX6_bitsOf_4 1 rfl ?_
    refine z_bipush C (z := 74) dX6_bitsOf_5 (by decide) ?_
    refine z_icmp_ge C (by omega) (by decide) (tgt := 19) dX6_bitsOf_7 (by decide) (fun c2 => ?_) (fun c2 => ?_)
    · refine z_iconst C (z := 0) dX6_bitsOf_19 ?_
      refine z_iret (x := 0) C dX6_bitsOf_20 () ?_ ?_ ?_ (by decide) (by decide)
      · (unfold lenC; first | rw [if_pos (by omega)] | rw [if_neg (by omega)])
      · exact trivial
      · exact rfl
    · refine z_aload_n C dX6_bitsOf_10 0 rfl ?_
      refine z_get C hinX6 (ci := 8) rfl 3 rfl 0 (by decide) k0 rfl (v := .ref (a 11)) rfl dX6_bitsOf_11 ?_
      refine z_iload_n C dX6_bitsOf_14 1 rfl ?_
      refine z_iald C 11 1 (g := (tB false)) rfl rfl (by omega) (by omega) (by decide) dX6_bitsOf_15 ?_
      refine z_goto C (tgt := 20) dX6_bitsOf_16 (by decide) ?_
      refine z_iret (x := (tB false (r : Int).toNat)) C dX6_bitsOf_20 () ?_ ?_ ?_ (by decide) (by decide)
      · (unfold lenC; first | rw [if_pos (by omega)] | rw [if_neg (by omega)])
      · exact trivial
      · exact rfl
theorem kn_X6_codeOf : zKn yX6_codeOf wsX6_codeOf cX6_codeOf 2 (some .int) 1 := ⟨⟨_, rfl⟩, by decide +kernel, by decide +kernel, by decide +kernel⟩
set_option maxHeartbeats 400000 in
set_option maxRecDepth 100000 in
theorem c_X6_codeOfW (l : Launch) (D : va_G) (cy : Nat → ClassId) (tw : Nat → Nat) (a : Nat → Nat) (kd : Int) (co : Int) (mk : Bool) (al : Bool) (dz : Bool) (rd : Bool) (rw : Int) (wo : Nat → BitVec 64) (sa : Nat → Int) (sz : Int) (ps : Int) (bt : Nat → Int) (ou : Nat → Int) (bi : Int) (dm : Int) (pl : Bool) (re : Int) (cu : Bool) (r : Int)  (h1 : -10 ≤ r ∧ r ≤ 1000) : zMet l yX6_codeOf wsX6_codeOf { frames := 0, cells := 0, slots := 0, locals := 0 } D (zT cy) tw (CW cy a kd co mk al dz rd rw wo sa sz ps bt ou bi dm pl re cu) [.ref (a 3), vI r] 0 0 (S := Unit) (fun _ => some (vI (codC false r))) (fun _ => CW cy a kd co mk al dz rd rw wo sa sz ps bt ou bi dm pl re cu) (fun _ => True) := by
  refine z_met (cc := cX6_codeOf) (nL := 2) (ret := some .int) (by decide +kernel) rfl (Nat.le_of_ble_eq_true rfl) (lv := [(0, .ref (a 3)), (1, vI r)]) rfl ?_
  intro V p_ e_ s_ m_ args_ below_ meth_ c_ A_ C hmn
  have hinX6 : ∀ w ∈ u_ws RX6 TX6 4, w ∈ wsX6_codeOf := by decide +kernel
  have k0 : Cond.fieldLink RX6 15 "FaxFilter$Table" "codes" "[I" ∈ wsX6_codeOf := List.mem_of_getElem? (i := 1) rfl
  refine z_iload_n C dX6_codeOf_0 1 rfl ?_
  refine z_if_lt C (by omega) (tgt := 19) dX6_codeOf_1 (by decide) (fun c1 => ?_) (fun c1 => ?_)
  · refine z_iconst C (z := 0) dX6_codeOf_19 ?_
    refine z_iret (x := 0) C dX6_codeOf_20 () ?_ ?_ ?_ (by decide) (by decide)
    · (unfold codC; first | rw [if_pos (by omega)] | rw [if_neg (by omega)])
    · exact trivial
    · exact rfl
  · refine z_iload_n C dX6_codeOf_4 1 rfl ?_
    refine z_bipush C (z := 74) dX6_codeOf_5 (by decide) ?_
    refine z_icmp_ge C (by omega) (by decide) (tgt := 19) dX6_codeOf_7 (by decide) (fun c2 => ?_) (fun c2 => ?_)
    · refine z_iconst C (z := 0) dX6_codeOf_19 ?_
      refine z_iret (x := 0) C dX6_codeOf_20 () ?_ ?_ ?_ (by decide) (by decide)
      · (unfold codC; first | rw [if_pos (by omega)] | rw [if_neg (by omega)])
      · exact trivial
      · exact rfl
    · refine z_aload_n C dX6_codeOf_10 0 rfl ?_
      refine z_get C hinX6 (ci := 8) rfl 3 rfl 1 (by decide) k0 rfl (v := .ref (a 12)) rfl dX6_codeOf_11 ?_
      refine z_iload_n C dX6_codeOf_14 1 rfl ?_
      refine z_iald C 12 1 (g := (tC false)) rfl rfl (by omega) (by omega) (by decide) dX6_codeOf_15 ?_
      refine z_goto C (tgt := 20) dX6_codeOf_16 (by decide) ?_
      refine z_iret (x := (tC false (r : Int).toNat)) C dX6_codeOf_20 () ?_ ?_ ?_ (by decide) (by decide)
      · (unfold codC; first | rw [if_pos (by omega)] | rw [if_neg (by omega)])
      · exact trivial
      · exact rfl
theorem kn_X6_slotBeginning : zKn yX6_slotBeginning wsX6_slotBeginning cX6_slotBeginning 3 (some .int) 1 := ⟨⟨_, rfl⟩, by decide +kernel, by decide +kernel, by decide +kernel⟩
set_option maxHeartbeats 400000 in
set_option maxRecDepth 100000 in
theorem c_X6_slotBeginningW (l : Launch) (D : va_G) (cy : Nat → ClassId) (tw : Nat → Nat) (a : Nat → Nat) (kd : Int) (co : Int) (mk : Bool) (al : Bool) (dz : Bool) (rd : Bool) (rw : Int) (wo : Nat → BitVec 64) (sa : Nat → Int) (sz : Int) (ps : Int) (bt : Nat → Int) (ou : Nat → Int) (bi : Int) (dm : Int) (pl : Bool) (re : Int) (cu : Bool) (t : Int)  (h1 : 0 ≤ t ∧ t < 4096) : zMet l yX6_slotBeginning wsX6_slotBeginning { frames := 0, cells := 0, slots := 0, locals := 0 } D (zT cy) tw (CW cy a kd co mk al dz rd rw wo sa sz ps bt ou bi dm pl re cu) [.ref (a 3), vI t] 0 0 (S := Unit) (fun _ => some (vI (sbg false t 0))) (fun _ => CW cy a kd co mk al dz rd rw wo sa sz ps bt ou bi dm pl re cu) (fun _ => True) := by
  refine z_met (cc := cX6_slotBeginning) (nL := 3) (ret := some .int) (by decide +kernel) rfl (Nat.le_of_ble_eq_true rfl) (lv := [(0, .ref (a 3)), (1, vI t)]) rfl ?_
  intro V p_ e_ s_ m_ args_ below_ meth_ c_ A_ C hmn
  have hinX6 : ∀ w ∈ u_ws RX6 TX6 4, w ∈ wsX6_slotBeginning := by decide +kernel
  have k0 : Cond.fieldLink RX6 21 "FaxFilter$Table" "floors" "[I" ∈ wsX6_slotBeginning := List.mem_of_getElem? (i := 1) rfl
  have k1 : Cond.fieldLink RX6 18 "FaxFilter$Table" "ordered" "[I" ∈ wsX6_slotBeginning := List.mem_of_getElem? (i := 2) rfl
  refine z_iconst C (z := 0) dX6_slotBeginning_0 ?_
  refine z_istore_n C (lv' := [(2, vI 0), (0, .ref (a 3)), (1, vI t)]) dX6_slotBeginning_1 rfl (by decide) rfl ?_
  have J2 : ∀ (f : Nat) (r : Int), 0 ≤ r ∧ r ≤ 74 → sbg false t 0 = sbg false t r → (74 - r).toNat < f → V 0 0 (CW cy a kd co mk al dz rd rw wo sa sz ps bt ou bi dm pl re cu) [(0, .ref (a 3)), (1, vI t), (2, vI r)] [] 2 := by
    intro f
    induction f with
    | zero => intro r i0 i1 hf; exact absurd hf (Nat.not_lt_zero _)
    | succ f ih =>
      intro r i0 i1 hf
      refine z_iload_n C dX6_slotBeginning_2 2 rfl ?_
      refine z_bipush C (z := 74) dX6_slotBeginning_3 (by decide) ?_
      refine z_icmp_ge C (by omega) (by decide) (tgt := 31) dX6_slotBeginning_5 (by decide) (fun c1 => ?_) (fun c1 => ?_)
      · refine z_bipush C (z := (-2)) dX6_slotBeginning_31 (by decide) ?_
        refine z_iret (x := (-2)) C dX6_slotBeginning_33 () ?_ ?_ ?_ (by decide) (by decide)
        · rw [i1, sbg_end (by omega)]
        · exact trivial
        · exact rfl
      · refine z_aload_n C dX6_slotBeginning_8 0 rfl ?_
        have ht := tab_rg false r.toNat (by omega)
        refine z_get C hinX6 (ci := 8) rfl 3 rfl 3 (by decide) k0 rfl (v := .ref (a 14)) rfl dX6_slotBeginning_9 ?_
        refine z_iload_n C dX6_slotBeginning_12 2 rfl ?_
        refine z_iald C 14 1 (g := (tF false)) rfl rfl (by omega) (by omega) (by decide) dX6_slotBeginning_13 ?_
        refine z_iload_n C dX6_slotBeginning_14 1 rfl ?_
        refine z_icmp_gt C (by omega) (by omega) (tgt := 25) dX6_slotBeginning_15 (by decide) (fun c2 => ?_) (fun c2 => ?_)
        · refine z_iinc C (lv' := [(2, vI (r + 1)), (0, .ref (a 3)), (1, vI t)]) dX6_slotBeginning_25 2 rfl (by decide) rfl ?_
          refine z_goto C (tgt := 2) dX6_slotBeginning_28 (by decide) ?_
          refine z_lsub C [1, 2, 0] rfl ?_
          exact ih (r + 1) (by omega) (by rw [i1, sbg_next (by omega) (by omega)]) (by omega)
        · refine z_aload_n C dX6_slotBeginning_18 0 rfl ?_
          refine z_get C hinX6 (ci := 8) rfl 3 rfl 2 (by decide) k1 rfl (v := .ref (a 13)) rfl dX6_slotBeginning_19 ?_
          refine z_iload_n C dX6_slotBeginning_22 2 rfl ?_
          refine z_iald C 13 1 (g := (tO false)) rfl rfl (by omega) (by omega) (by decide) dX6_slotBeginning_23 ?_
          refine z_iret (x := (tO false (r : Int).toNat)) C dX6_slotBeginning_24 () ?_ ?_ ?_ (by decide) (by decide)
          · rw [i1, sbg_hit (by omega) (by omega)]
          · exact trivial
          · exact rfl
  refine z_lsub C [1, 2, 0] rfl ?_
  exact J2 _ 0 (by omega) (rfl) (Nat.lt_succ_self _)
set_option maxHeartbeats 400000 in
set_option maxRecDepth 100000 in
theorem c_X6_bitsOfD (l : Launch) (D : va_G) (cy : Nat → ClassId) (tw : Nat → Nat) (a : Nat → Nat) (kd : Int) (co : Int) (mk : Bool) (al : Bool) (dz : Bool) (rd : Bool) (rw : Int) (wo : Nat → BitVec 64) (sa : Nat → Int) (sz : Int) (ps : Int) (bt : Nat → Int) (ou : Nat → Int) (bi : Int) (dm : Int) (pl : Bool) (re : Int) (cu : Bool) (r : Int)  (h1 : -10 ≤ r ∧ r ≤ 1000) : zMet l yX6_bitsOf wsX6_bitsOf { frames := 0, cells := 0, slots := 0, locals := 0 } D (zT cy) tw (CW cy a kd co mk al dz rd rw wo sa sz ps bt ou bi dm pl re cu) [.ref (a 4), vI r] 0 0 (S := Unit) (fun _ => some (vI (lenC true r))) (fun _ => CW cy a kd co mk al dz rd rw wo sa sz ps bt ou bi dm pl re cu) (fun _ => True) := by
  refine z_met (cc := cX6_bitsOf) (nL := 2) (ret := some .int) (by decide +kernel) rfl (Nat.le_of_ble_eq_true rfl) (lv := [(0, .ref (a 4)), (1, vI r)]) rfl ?_
  intro V p_ e_ s_ m_ args_ below_ meth_ c_ A_ C hmn
  have hinX6 : ∀ w ∈ u_ws RX6 TX6 4, w ∈ wsX6_bitsOf := by decide +kernel
  have k0 : Cond.fieldLink RX6 11 "FaxFilter$Table" "bits" "[I" ∈ wsX6_bitsOf := List.mem_of_getElem? (i := 1) rfl
  refine z_iload_n C dX6_bitsOf_0 1 rfl ?_
  refine z_if_lt C (by omega) (tgt := 19) dX6_bitsOf_1 (by decide) (fun c1 => ?_) (fun c1 => ?_)
  · refine z_iconst C (z := 0) dX6_bitsOf_19 ?_
    refine z_iret (x := 0) C dX6_bitsOf_20 () ?_ ?_ ?_ (by decide) (by decide)
    · (unfold lenC; first | rw [if_pos (by omega)] | rw [if_neg (by omega)])
    · exact trivial
    · exact rfl
  · refine z_iload_n C dX6_bitsOf_4 1 rfl ?_
    refine z_bipush C (z := 74) dX6_bitsOf_5 (by decide) ?_
    refine z_icmp_ge C (by omega) (by decide) (tgt := 19) dX6_bitsOf_7 (by decide) (fun c2 => ?_) (fun c2 => ?_)
    · refine z_iconst C (z := 0) dX6_bitsOf_19 ?_
      refine z_iret (x := 0) C dX6_bitsOf_20 () ?_ ?_ ?_ (by decide) (by decide)
      · (unfold lenC; first | rw [if_pos (by omega)] | rw [if_neg (by omega)])
      · exact trivial
      · exact rfl
    · refine z_aload_n C dX6_bitsOf_10 0 rfl ?_
      refine z_get C hinX6 (ci := 8) rfl 4 rfl 0 (by decide) k0 rfl (v := .ref (a 15)) rfl dX6_bitsOf_11 ?_
      refine z_iload_n C dX6_bitsOf_14 1 rfl ?_
      refine z_iald C 15 1 (g := (tB true)) rfl rfl (by omega) (by omega) (by decide) dX6_bitsOf_15 ?_
      refine z_goto C (tgt := 20) dX6_bitsOf_16 (by decide) ?_
      refine z_iret (x := (tB true (r : Int).toNat)) C dX6_bitsOf_20 () ?_ ?_ ?_ (by decide) (by decide)
      · (unfold lenC; first | rw [if_pos (by omega)] | rw [if_neg (by omega)])
      · exact trivial
      · exact rfl
set_option maxHeartbeats 400000 in
set_option maxRecDepth 100000 in
theorem c_X6_codeOfD (l : Launch) (D : va_G) (cy : Nat → ClassId) (tw : Nat → Nat) (a : Nat → Nat) (kd : Int) (co : Int) (mk : Bool) (al : Bool) (dz : Bool) (rd : Bool) (rw : Int) (wo : Nat → BitVec 64) (sa : Nat → Int) (sz : Int) (ps : Int) (bt : Nat → Int) (ou : Nat → Int) (bi : Int) (dm : Int) (pl : Bool) (re : Int) (cu : Bool) (r : Int)  (h1 : -10 ≤ r ∧ r ≤ 1000) : zMet l yX6_codeOf wsX6_codeOf { frames := 0, cells := 0, slots := 0, locals := 0 } D (zT cy) tw (CW cy a kd co mk al dz rd rw wo sa sz ps bt ou bi dm pl re cu) [.ref (a 4), vI r] 0 0 (S := Unit) (fun _ => some (vI (codC true r))) (fun _ => CW cy a kd co mk al dz rd rw wo sa sz ps bt ou bi dm pl re cu) (fun _ => True) := by
  refine z_met (cc := cX6_codeOf) (nL := 2) (ret := some .int) (by decide +kernel) rfl (Nat.le_of_ble_eq_true rfl) (lv := [(0, .ref (a 4)), (1, vI r)]) rfl ?_
  intro V p_ e_ s_ m_ args_ below_ meth_ c_ A_ C hmn
  have hinX6 : ∀ w ∈ u_ws RX6 TX6 4, w ∈ wsX6_codeOf := by decide +kernel
  have k0 : Cond.fieldLink RX6 15 "FaxFilter$Table" "codes" "[I" ∈ wsX6_codeOf := List.mem_of_getElem? (i := 1) rfl
  refine z_iload_n C dX6_codeOf_0 1 rfl ?_
  refine z_if_lt C (by omega) (tgt := 19) dX6_codeOf_1 (by decide) (fun c1 => ?_) (fun c1 => ?_)
  · refine z_iconst C (z := 0) dX6_codeOf_19 ?_
    refine z_iret (x := 0) C dX6_codeOf_20 () ?_ ?_ ?_ (by decide) (by decide)
    · (unfold codC; first | rw [if_pos (by omega)] | rw [if_neg (by omega)])
    · exact trivial
    · exact rfl
  · refine z_iload_n C dX6_codeOf_4 1 rfl ?_
    refine z_bipush C (z := 74) dX6_codeOf_5 (by decide) ?_
    refine z_icmp_ge C (by omega) (by decide) (tgt := 19) dX6_codeOf_7 (by decide) (fun c2 => ?_) (fun c2 => ?_)
    · refine z_iconst C (z := 0) dX6_codeOf_19 ?_
      refine z_iret (x := 0) C dX6_codeOf_20 () ?_ ?_ ?_ (by decide) (by decide)
      · (unfold codC; first | rw [if_pos (by omega)] | rw [if_neg (by omega)])
      · exact trivial
      · exact rfl
    · refine z_aload_n C dX6_codeOf_10 0 rfl ?_
      refine z_get C hinX6 (ci := 8) rfl 4 rfl 1 (by decide) k0 rfl (v := .ref (a 16)) rfl dX6_codeOf_11 ?_
      refine z_iload_n C dX6_codeOf_14 1 rfl ?_
      refine z_iald C 16 1 (g := (tC true)) rfl rfl (by omega) (by omega) (by decide) dX6_codeOf_15 ?_
      refine z_goto C (tgt := 20) dX6_codeOf_16 (by decide) ?_
      refine z_iret (x := (tC true (r : Int).toNat)) C dX6_codeOf_20 () ?_ ?_ ?_ (by decide) (by decide)
      · (unfold codC; first | rw [if_pos (by omega)] | rw [if_neg (by omega)])
      · exact trivial
      · exact rfl
set_option maxHeartbeats 400000 in
set_option maxRecDepth 100000 in
theorem c_X6_slotBeginningD (l : Launch) (D : va_G) (cy : Nat → ClassId) (tw : Nat → Nat) (a : Nat → Nat) (kd : Int) (co : Int) (mk : Bool) (al : Bool) (dz : Bool) (rd : Bool) (rw : Int) (wo : Nat → BitVec 64) (sa : Nat → Int) (sz : Int) (ps : Int) (bt : Nat → Int) (ou : Nat → Int) (bi : Int) (dm : Int) (pl : Bool) (re : Int) (cu : Bool) (t : Int)  (h1 : 0 ≤ t ∧ t < 4096) : zMet l yX6_slotBeginning wsX6_slotBeginning { frames := 0, cells := 0, slots := 0, locals := 0 } D (zT cy) tw (CW cy a kd co mk al dz rd rw wo sa sz ps bt ou bi dm pl re cu) [.ref (a 4), vI t] 0 0 (S := Unit) (fun _ => some (vI (sbg true t 0))) (fun _ => CW cy a kd co mk al dz rd rw wo sa sz ps bt ou bi dm pl re cu) (fun _ => True) := by
  refine z_met (cc := cX6_slotBeginning) (nL := 3) (ret := some .int) (by decide +kernel) rfl (Nat.le_of_ble_eq_true rfl) (lv := [(0, .ref (a 4)), (1, vI t)]) rfl ?_
  intro V p_ e_ s_ m_ args_ below_ meth_ c_ A_ C hmn
  have hinX6 : ∀ w ∈ u_ws RX6 TX6 4, w ∈ wsX6_slotBeginning := by decide +kernel
  have k0 : Cond.fieldLink RX6 21 "FaxFilter$Table" "floors" "[I" ∈ wsX6_slotBeginning := List.mem_of_getElem? (i := 1) rfl
  have k1 : Cond.fieldLink RX6 18 "FaxFilter$Table" "ordered" "[I" ∈ wsX6_slotBeginning := List.mem_of_getElem? (i := 2) rfl
  refine z_iconst C (z := 0) dX6_slotBeginning_0 ?_
  refine z_istore_n C (lv' := [(2, vI 0), (0, .ref (a 4)), (1, vI t)]) dX6_slotBeginning_1 rfl (by decide) rfl ?_
  have J2 : ∀ (f : Nat) (r : Int), 0 ≤ r ∧ r ≤ 74 → sbg true t 0 = sbg true t r → (74 - r).toNat < f → V 0 0 (CW cy a kd co mk al dz rd rw wo sa sz ps bt ou bi dm pl re cu) [(0, .ref (a 4)), (1, vI t), (2, vI r)] [] 2 := by
    intro f
    induction f with
    | zero => intro r i0 i1 hf; exact absurd hf (Nat.not_lt_zero _)
    | succ f ih =>
      intro r i0 i1 hf
      refine z_iload_n C dX6_slotBeginning_2 2 rfl ?_
      refine z_bipush C (z := 74) dX6_slotBeginning_3 (by decide) ?_
      refine z_icmp_ge C (by omega) (by decide) (tgt := 31) dX6_slotBeginning_5 (by decide) (fun c1 => ?_) (fun c1 => ?_)
      · refine z_bipush C (z := (-2)) dX6_slotBeginning_31 (by decide) ?_
        refine z_iret (x := (-2)) C dX6_slotBeginning_33 () ?_ ?_ ?_ (by decide) (by decide)
        · rw [i1, sbg_end (by omega)]
        · exact trivial
        · exact rfl
      · refine z_aload_n C dX6_slotBeginning_8 0 rfl ?_
        have ht := tab_rg true r.toNat (by omega)
        refine z_get C hinX6 (ci := 8) rfl 4 rfl 3 (by decide) k0 rfl (v := .ref (a 18)) rfl dX6_slotBeginning_9 ?_
        refine z_iload_n C dX6_slotBeginning_12 2 rfl ?_
        refine z_iald C 18 1 (g := (tF true)) rfl rfl (by omega) (by omega) (by decide) dX6_slotBeginning_13 ?_
        refine z_iload_n C dX6_slotBeginning_14 1 rfl ?_
        refine z_icmp_gt C (by omega) (by omega) (tgt := 25) dX6_slotBeginning_15 (by decide) (fun c2 => ?_) (fun c2 => ?_)
        · refine z_iinc C (lv' := [(2, vI (r + 1)), (0, .ref (a 4)), (1, vI t)]) dX6_slotBeginning_25 2 rfl (by decide) rfl ?_
          refine z_goto C (tgt := 2) dX6_slotBeginning_28 (by decide) ?_
          refine z_lsub C [1, 2, 0] rfl ?_
          exact ih (r + 1) (by omega) (by rw [i1, sbg_next (by omega) (by omega)]) (by omega)
        · refine z_aload_n C dX6_slotBeginning_18 0 rfl ?_
          refine z_get C hinX6 (ci := 8) rfl 4 rfl 2 (by decide) k1 rfl (v := .ref (a 17)) rfl dX6_slotBeginning_19 ?_
          refine z_iload_n C dX6_slotBeginning_22 2 rfl ?_
          refine z_iald C 17 1 (g := (tO true)) rfl rfl (by omega) (by omega) (by decide) dX6_slotBeginning_23 ?_
          refine z_iret (x := (tO true (r : Int).toNat)) C dX6_slotBeginning_24 () ?_ ?_ ?_ (by decide) (by decide)
          · rw [i1, sbg_hit (by omega) (by omega)]
          · exact trivial
          · exact rfl
  refine z_lsub C [1, 2, 0] rfl ?_
  exact J2 _ 0 (by omega) (rfl) (Nat.lt_succ_self _)
end
section
/-! Picture -/
theorem ix_rg {w r k : Int} (h1 : 0 ≤ r ∧ r < 24) (h2 : 0 ≤ k ∧ k < w) : 0 ≤ r * w + k ∧ r * w + k < 24 * w ∧ 0 ≤ r * w := by
  have e1 : r * w ≤ 23 * w := Int.mul_le_mul_of_nonneg_right (by omega) (by omega)
  have e2 : 0 ≤ r * w := Int.mul_nonneg (by omega) (by omega)
  omega
def ixC (co r k : Int) : Int := if 0 ≤ r ∧ r < 24 ∧ 0 ≤ k ∧ k < (co + 63) / 64 then r * ((co + 63) / 64) + k else -2
theorem ixC_in {co r k : Int} (h1 : 0 ≤ r ∧ r < 24) (h2 : 0 ≤ k ∧ k < (co + 63) / 64) : ixC co r k = r * ((co + 63) / 64) + k ∧ 0 ≤ ixC co r k ∧ ixC co r k < 24 * ((co + 63) / 64) := by
  have := ix_rg h1 h2
  rw [ixC, if_pos ⟨h1.1, h1.2, h2.1, h2.2⟩]
  omega
theorem ixC_or (co r k : Int) : ixC co r k = -2 ∨ (0 ≤ ixC co r k ∧ ixC co r k < 24 * ((co + 63) / 64) ∧ ixC co r k = r * ((co + 63) / 64) + k ∧ 0 ≤ r ∧ r < 24 ∧ 0 ≤ k ∧ k < (co + 63) / 64) := by
  by_cases h : 0 ≤ r ∧ r < 24 ∧ 0 ≤ k ∧ k < (co + 63) / 64
  · have := ixC_in (co := co) ⟨h.1, h.2.1⟩ ⟨h.2.2.1, h.2.2.2⟩
    omega
  · left; rw [ixC, if_neg h]
def wdC (wo : Nat → BitVec 64) (co r k : Int) : BitVec 64 := if ixC co r k < 0 then 0#64 else wo (ixC co r k).toNat
def px (wo : Nat → BitVec 64) (co r x : Int) : Bool := decide (0 ≤ x ∧ x < co) && (wdC wo co r (x / 64)).getLsbD (x % 64).toNat
theorem bit_and1 (w : BitVec 64) (k : Nat) : (w >>> k) &&& 1#64 = 0#64 ↔ w.getLsbD k = false := by
  constructor
  · intro h
    have h2 := congrArg (fun v => BitVec.getLsbD v 0) h
    simpa using h2
  · intro h
    apply BitVec.eq_of_getLsbD_eq
    intro i hi
    cases i with
    | zero => simp [h]
    | succ i => simp
theorem kn_X2_has : zKn yX2_has wsX2_has cX2_has 2 (some .boolean) 1 := ⟨⟨_, rfl⟩, by decide +kernel, by decide +kernel, by decide +kernel⟩
set_option maxHeartbeats 400000 in
set_option maxRecDepth 100000 in
theorem c_X2_has (l : Launch) (D : va_G) (cy : Nat → ClassId) (tw : Nat → Nat) (a : Nat → Nat) (kd : Int) (co : Int) (mk : Bool) (al : Bool) (dz : Bool) (rd : Bool) (rw : Int) (wo : Nat → BitVec 64) (sa : Nat → Int) (sz : Int) (ps : Int) (bt : Nat → Int) (ou : Nat → Int) (bi : Int) (dm : Int) (pl : Bool) (re : Int) (cu : Bool) (r : Int)  (hrw : 0 ≤ rw ∧ rw ≤ 24) (hr : -2147483648 ≤ r ∧ r < 2147483648) : zMet l yX2_has wsX2_has { frames := 0, cells := 0, slots := 0, locals := 0 } D (zT cy) tw (CW cy a kd co mk al dz rd rw wo sa sz ps bt ou bi dm pl re cu) [.ref (a 2), vI r] 0 0 (S := Unit) (fun _ => some (vI (b2i (decide (0 ≤ r ∧ r < rw))))) (fun _ => CW cy a kd co mk al dz rd rw wo sa sz ps bt ou bi dm pl re cu) (fun _ => True) := by
  refine z_met (cc := cX2_has) (nL := 2) (ret := some .boolean) (by decide +kernel) rfl (Nat.le_of_ble_eq_true rfl) (lv := [(0, .ref (a 2)), (1, vI r)]) rfl ?_
  intro V p_ e_ s_ m_ args_ below_ meth_ c_ A_ C hmn
  have hinX2 : ∀ w ∈ u_ws RX2 TX2 5, w ∈ wsX2_has := by decide +kernel
  have k0 : Cond.fieldLink RX2 26 "FaxFilter$Picture" "rows" "I" ∈ wsX2_has := List.mem_of_getElem? (i := 1) rfl
  refine z_iload_n C dX2_has_0 1 rfl ?_
  refine z_if_lt C (by omega) (tgt := 16) dX2_has_1 (by decide) (fun c1 => ?_) (fun c1 => ?_)
  · refine z_iconst C (z := 0) dX2_has_16 ?_
    refine z_zret (b := false) C dX2_has_17 () ?_ ?_ ?_ (by decide) (by decide)
    · first | rw [decide_eq_true (by omega)] | rw [decide_eq_false (by omega)]
    · exact trivial
    · exact rfl
  · refine z_iload_n C dX2_has_4 1 rfl ?_
    refine z_aload_n C dX2_has_5 0 rfl ?_
    refine z_get C hinX2 (ci := 4) rfl 2 rfl 1 (by decide) k0 rfl (v := vI rw) rfl dX2_has_6 ?_
    refine z_icmp_ge C (by omega) (by omega) (tgt := 16) dX2_has_9 (by decide) (fun c2 => ?_) (fun c2 => ?_)
    · refine z_iconst C (z := 0) dX2_has_16 ?_
      refine z_zret (b := false) C dX2_has_17 () ?_ ?_ ?_ (by decide) (by decide)
      · first | rw [decide_eq_true (by omega)] | rw [decide_eq_false (by omega)]
      · exact trivial
      · exact rfl
    · refine z_iconst C (z := 1) dX2_has_12 ?_
      refine z_goto C (tgt := 17) dX2_has_13 (by decide) ?_
      refine z_zret (b := true) C dX2_has_17 () ?_ ?_ ?_ (by decide) (by decide)
      · first | rw [decide_eq_true (by omega)] | rw [decide_eq_false (by omega)]
      · exact trivial
      · exact rfl
theorem kn_X2_stateOf : zKn yX2_stateOf wsX2_stateOf cX2_stateOf 2 (some .int) 1 := ⟨⟨_, rfl⟩, by decide +kernel, by decide +kernel, by decide +kernel⟩
set_option maxHeartbeats 400000 in
set_option maxRecDepth 100000 in
theorem c_X2_stateOf (l : Launch) (D : va_G) (cy : Nat → ClassId) (tw : Nat → Nat) (a : Nat → Nat) (kd : Int) (co : Int) (mk : Bool) (al : Bool) (dz : Bool) (rd : Bool) (rw : Int) (wo : Nat → BitVec 64) (sa : Nat → Int) (sz : Int) (ps : Int) (bt : Nat → Int) (ou : Nat → Int) (bi : Int) (dm : Int) (pl : Bool) (re : Int) (cu : Bool) (r : Int)  (hr : 0 ≤ r ∧ r < 24) : zMet l yX2_stateOf wsX2_stateOf { frames := 0, cells := 0, slots := 0, locals := 0 } D (zT cy) tw (CW cy a kd co mk al dz rd rw wo sa sz ps bt ou bi dm pl re cu) [.ref (a 2), vI r] 0 0 (S := Unit) (fun _ => some (vI (sa (r : Int).toNat))) (fun _ => CW cy a kd co mk al dz rd rw wo sa sz ps bt ou bi dm pl re cu) (fun _ => True) := by
  refine z_met (cc := cX2_stateOf) (nL := 2) (ret := some .int) (by decide +kernel) rfl (Nat.le_of_ble_eq_true rfl) (lv := [(0, .ref (a 2)), (1, vI r)]) rfl ?_
  intro V p_ e_ s_ m_ args_ below_ meth_ c_ A_ C hmn
  have hinX2 : ∀ w ∈ u_ws RX2 TX2 5, w ∈ wsX2_stateOf := by decide +kernel
  have k0 : Cond.fieldLink RX2 9 "FaxFilter$Picture" "states" "[I" ∈ wsX2_stateOf := List.mem_of_getElem? (i := 1) rfl
  refine z_iload_n C dX2_stateOf_0 1 rfl ?_
  refine z_if_lt C (by omega) (tgt := 19) dX2_stateOf_1 (by decide) (fun c1 => ?_) (fun c1 => ?_)
  · exfalso; omega
  · refine z_iload_n C dX2_stateOf_4 1 rfl ?_
    refine z_bipush C (z := 24) dX2_stateOf_5 (by decide) ?_
    refine z_icmp_ge C (by omega) (by decide) (tgt := 19) dX2_stateOf_7 (by decide) (fun c2 => ?_) (fun c2 => ?_)
    · exfalso; omega
    · refine z_aload_n C dX2_stateOf_10 0 rfl ?_
      refine z_get C hinX2 (ci := 4) rfl 2 rfl 4 (by decide) k0 rfl (v := .ref (a 10)) rfl dX2_stateOf_11 ?_
      refine z_iload_n C dX2_stateOf_14 1 rfl ?_
      refine z_iald C 10 1 (g := sa) rfl rfl (by omega) (by omega) (by decide) dX2_stateOf_15 ?_
      refine z_goto C (tgt := 20) dX2_stateOf_16 (by decide) ?_
      refine z_iret (x := (sa (r : Int).toNat)) C dX2_stateOf_20 () ?_ ?_ ?_ (by decide) (by decide)
      · exact rfl
      · exact trivial
      · exact rfl
theorem kn_X2_mend : zKn yX2_mend wsX2_mend cX2_mend 2 (none) 1 := ⟨⟨_, rfl⟩, by decide +kernel, by decide +kernel, by decide +kernel⟩
set_option maxHeartbeats 400000 in
set_option maxRecDepth 100000 in
theorem c_X2_mend (l : Launch) (D : va_G) (cy : Nat → ClassId) (tw : Nat → Nat) (a : Nat → Nat) (kd : Int) (co : Int) (mk : Bool) (al : Bool) (dz : Bool) (rd : Bool) (rw : Int) (wo : Nat → BitVec 64) (sa : Nat → Int) (sz : Int) (ps : Int) (bt : Nat → Int) (ou : Nat → Int) (bi : Int) (dm : Int) (pl : Bool) (re : Int) (cu : Bool) (r : Int)  (hr : 0 ≤ r ∧ r < 24) : zMet l yX2_mend wsX2_mend { frames := 0, cells := 0, slots := 0, locals := 0 } D (zT cy) tw (CW cy a kd co mk al dz rd rw wo sa sz ps bt ou bi dm pl re cu) [.ref (a 2), vI r] 0 0 (S := Unit) (fun _ => none) (fun _ => CW cy a kd co mk al dz rd rw wo (va_up sa (r : Int).toNat 0) sz ps bt ou bi dm pl re cu) (fun _ => True) := by
  refine z_met (cc := cX2_mend) (nL := 2) (ret := none) (by decide +kernel) rfl (Nat.le_of_ble_eq_true rfl) (lv := [(0, .ref (a 2)), (1, vI r)]) rfl ?_
  intro V p_ e_ s_ m_ args_ below_ meth_ c_ A_ C hmn
  have hinX2 : ∀ w ∈ u_ws RX2 TX2 5, w ∈ wsX2_mend := by decide +kernel
  have k0 : Cond.fieldLink RX2 9 "FaxFilter$Picture" "states" "[I" ∈ wsX2_mend := List.mem_of_getElem? (i := 1) rfl
  refine z_iload_n C dX2_mend_0 1 rfl ?_
  refine z_if_lt C (by omega) (tgt := 17) dX2_mend_1 (by decide) (fun c1 => ?_) (fun c1 => ?_)
  · exfalso; omega
  · refine z_iload_n C dX2_mend_4 1 rfl ?_
    refine z_bipush C (z := 24) dX2_mend_5 (by decide) ?_
    refine z_icmp_ge C (by omega) (by decide) (tgt := 17) dX2_mend_7 (by decide) (fun c2 => ?_) (fun c2 => ?_)
    · exfalso; omega
    · refine z_aload_n C dX2_mend_10 0 rfl ?_
      refine z_get C hinX2 (ci := 4) rfl 2 rfl 4 (by decide) k0 rfl (v := .ref (a 10)) rfl dX2_mend_11 ?_
      refine z_iload_n C dX2_mend_14 1 rfl ?_
      refine z_iconst C (z := 0) dX2_mend_15 ?_
      refine z_iast C 10 1 (g := sa) rfl rfl (by omega) (by omega) (by decide) dX2_mend_16 (ws' := CW cy a kd co mk al dz rd rw wo (va_up sa (r : Int).toNat 0) sz ps bt ou bi dm pl re cu) rfl ?_
      refine z_vret C dX2_mend_17 () ?_ ?_ ?_ (by decide) (by decide)
      · exact rfl
      · exact trivial
      · exact rfl
theorem kn_X2_keep : zKn yX2_keep wsX2_keep cX2_keep 2 (none) 1 := ⟨⟨_, rfl⟩, by decide +kernel, by decide +kernel, by decide +kernel⟩
set_option maxHeartbeats 400000 in
set_option maxRecDepth 100000 in
theorem c_X2_keep (l : Launch) (D : va_G) (cy : Nat → ClassId) (tw : Nat → Nat) (a : Nat → Nat) (kd : Int) (co : Int) (mk : Bool) (al : Bool) (dz : Bool) (rd : Bool) (rw : Int) (wo : Nat → BitVec 64) (sa : Nat → Int) (sz : Int) (ps : Int) (bt : Nat → Int) (ou : Nat → Int) (bi : Int) (dm : Int) (pl : Bool) (re : Int) (cu : Bool) (x : Int)  (hrw : 0 ≤ rw ∧ rw < 24) : zMet l yX2_keep wsX2_keep { frames := 0, cells := 0, slots := 0, locals := 0 } D (zT cy) tw (CW cy a kd co mk al dz rd rw wo sa sz ps bt ou bi dm pl re cu) [.ref (a 2), vI x] 0 0 (S := Unit) (fun _ => none) (fun _ => CW cy a kd co mk al dz rd (rw + 1) wo (va_up sa (rw : Int).toNat x) sz ps bt ou bi dm pl re cu) (fun _ => True) := by
  refine z_met (cc := cX2_keep) (nL := 2) (ret := none) (by decide +kernel) rfl (Nat.le_of_ble_eq_true rfl) (lv := [(0, .ref (a 2)), (1, vI x)]) rfl ?_
  intro V p_ e_ s_ m_ args_ below_ meth_ c_ A_ C hmn
  have hinX2 : ∀ w ∈ u_ws RX2 TX2 5, w ∈ wsX2_keep := by decide +kernel
  have k0 : Cond.fieldLink RX2 26 "FaxFilter$Picture" "rows" "I" ∈ wsX2_keep := List.mem_of_getElem? (i := 1) rfl
  have k1 : Cond.fieldLink RX2 9 "FaxFilter$Picture" "states" "[I" ∈ wsX2_keep := List.mem_of_getElem? (i := 2) rfl
  refine z_aload_n C dX2_keep_0 0 rfl ?_
  refine z_get C hinX2 (ci := 4) rfl 2 rfl 1 (by decide) k0 rfl (v := vI rw) rfl dX2_keep_1 ?_
  refine z_if_lt C (by omega) (tgt := 36) dX2_keep_4 (by decide) (fun c1 => ?_) (fun c1 => ?_)
  · exfalso; omega
  · refine z_aload_n C dX2_keep_7 0 rfl ?_
    refine z_get C hinX2 (ci := 4) rfl 2 rfl 1 (by decide) k0 rfl (v := vI rw) rfl dX2_keep_8 ?_
    refine z_bipush C (z := 24) dX2_keep_11 (by decide) ?_
    refine z_icmp_ge C (by omega) (by decide) (tgt := 36) dX2_keep_13 (by decide) (fun c2 => ?_) (fun c2 => ?_)
    · exfalso; omega
    · refine z_aload_n C dX2_keep_16 0 rfl ?_
      refine z_get C hinX2 (ci := 4) rfl 2 rfl 4 (by decide) k1 rfl (v := .ref (a 10)) rfl dX2_keep_17 ?_
      refine z_aload_n C dX2_keep_20 0 rfl ?_
      refine z_get C hinX2 (ci := 4) rfl 2 rfl 1 (by decide) k0 rfl (v := vI rw) rfl dX2_keep_21 ?_
      refine z_iload_n C dX2_keep_24 1 rfl ?_
      refine z_iast C 10 1 (g := sa) rfl rfl (by omega) (by omega) (by decide) dX2_keep_25 (ws' := CW cy a kd co mk al dz rd rw wo (va_up sa (rw : Int).toNat x) sz ps bt ou bi dm pl re cu) rfl ?_
      refine z_aload_n C dX2_keep_26 0 rfl ?_
      refine z_dup C dX2_keep_27 rfl ?_
      refine z_get C hinX2 (ci := 4) rfl 2 rfl 1 (by decide) k0 rfl (v := vI rw) rfl dX2_keep_28 ?_
      refine z_iconst C (z := 1) dX2_keep_31 ?_
      refine z_iadd C dX2_keep_32 ?_
      refine z_put C hinX2 tyX2 tyX2_ok nmX2 (ci := 4) rfl 2 rfl 1 (by decide) k0 rfl rfl rfl rfl (Nat.le_of_ble_eq_true rfl) dX2_keep_33 (ws' := CW cy a kd co mk al dz rd (rw + 1) wo (va_up sa (rw : Int).toNat x) sz ps bt ou bi dm pl re cu) rfl ?_
      refine z_vret C dX2_keep_36 () ?_ ?_ ?_ (by decide) (by decide)
      · exact rfl
      · exact trivial
      · exact rfl
theorem kn_X2_indexOf : zKn yX2_indexOf wsX2_indexOf cX2_indexOf 4 (some .int) 2 := ⟨⟨_, rfl⟩, by decide +kernel, by decide +kernel, by decide +kernel⟩
set_option maxHeartbeats 400000 in
set_option maxRecDepth 100000 in
theorem c_X2_indexOf (l : Launch) (D : va_G) (cy : Nat → ClassId) (tw : Nat → Nat) (a : Nat → Nat) (kd : Int) (co : Int) (mk : Bool) (al : Bool) (dz : Bool) (rd : Bool) (rw : Int) (wo : Nat → BitVec 64) (sa : Nat → Int) (sz : Int) (ps : Int) (bt : Nat → Int) (ou : Nat → Int) (bi : Int) (dm : Int) (pl : Bool) (re : Int) (cu : Bool) (r : Int) (k : Int)  (hco : 1 ≤ co ∧ co ≤ 700) (hr : -100 ≤ r ∧ r ≤ 100) (hk : -100 ≤ k ∧ k ≤ 100) : zMet l yX2_indexOf wsX2_indexOf { frames := 0, cells := 0, slots := 0, locals := 0 } D (zT cy) tw (CW cy a kd co mk al dz rd rw wo sa sz ps bt ou bi dm pl re cu) [.ref (a 2), vI r, vI k] 0 0 (S := Unit) (fun _ => some (vI (ixC co r k))) (fun _ => CW cy a kd co mk al dz rd rw wo sa sz ps bt ou bi dm pl re cu) (fun _ => True) := by
  refine z_met (cc := cX2_indexOf) (nL := 4) (ret := some .int) (by decide +kernel) rfl (Nat.le_of_ble_eq_true rfl) (lv := [(0, .ref (a 2)), (1, vI r), (2, vI k)]) rfl ?_
  intro V p_ e_ s_ m_ args_ below_ meth_ c_ A_ C hmn
  have hinX2 : ∀ w ∈ u_ws RX2 TX2 5, w ∈ wsX2_indexOf := by decide +kernel
  have k0 : Cond.fieldLink RX2 19 "FaxFilter$Picture" "wide" "I" ∈ wsX2_indexOf := List.mem_of_getElem? (i := 1) rfl
  refine z_iload_n C dX2_indexOf_0 1 rfl ?_
  refine z_if_lt C (by omega) (tgt := 26) dX2_indexOf_1 (by decide) (fun c1 => ?_) (fun c1 => ?_)
  · refine z_iconst C (z := 0) dX2_indexOf_26 ?_
    refine z_istore_n C (lv' := [(3, vI 0), (0, .ref (a 2)), (1, vI r), (2, vI k)]) dX2_indexOf_27 rfl (by decide) rfl ?_
    refine z_iload_n C dX2_indexOf_28 0 rfl ?_
    refine z_if_eq C (by decide) (tgt := 43) dX2_indexOf_29 (by decide) (fun c2 => ?_) (fun c2 => ?_)
    rotate_left; · exact absurd c2 (by decide)
    refine z_bipush C (z := (-2)) dX2_indexOf_43 (by decide) ?_
    refine z_iret (x := (-2)) C dX2_indexOf_45 () ?_ ?_ ?_ (by decide) (by decide)
    · rw [ixC]; first | rw [if_pos (by omega)] | rw [if_neg (by omega)]
    · exact trivial
    · exact rfl
  · refine z_iload_n C dX2_indexOf_4 1 rfl ?_
    refine z_bipush C (z := 24) dX2_indexOf_5 (by decide) ?_
    refine z_icmp_ge C (by omega) (by decide) (tgt := 26) dX2_indexOf_7 (by decide) (fun c3 => ?_) (fun c3 => ?_)
    · refine z_iconst C (z := 0) dX2_indexOf_26 ?_
      refine z_istore_n C (lv' := [(3, vI 0), (0, .ref (a 2)), (1, vI r), (2, vI k)]) dX2_indexOf_27 rfl (by decide) rfl ?_
      refine z_iload_n C dX2_indexOf_28 0 rfl ?_
      refine z_if_eq C (by decide) (tgt := 43) dX2_indexOf_29 (by decide) (fun c4 => ?_) (fun c4 => ?_)
      rotate_left; · exact absurd c4 (by decide)
      refine z_bipush C (z := (-2)) dX2_indexOf_43 (by decide) ?_
      refine z_iret (x := (-2)) C dX2_indexOf_45 () ?_ ?_ ?_ (by decide) (by decide)
      · rw [ixC]; first | rw [if_pos (by omega)] | rw [if_neg (by omega)]
      · exact trivial
      · exact rfl
    · refine z_iload_n C dX2_indexOf_10 2 rfl ?_
      refine z_if_lt C (by omega) (tgt := 26) dX2_indexOf_11 (by decide) (fun c5 => ?_) (fun c5 => ?_)
      · refine z_iconst C (z := 0) dX2_indexOf_26 ?_
        refine z_istore_n C (lv' := [(3, vI 0), (0, .ref (a 2)), (1, vI r), (2, vI k)]) dX2_indexOf_27 rfl (by decide) rfl ?_
        refine z_iload_n C dX2_indexOf_28 0 rfl ?_
        refine z_if_eq C (by decide) (tgt := 43) dX2_indexOf_29 (by decide) (fun c6 => ?_) (fun c6 => ?_)
        rotate_left; · exact absurd c6 (by decide)
        refine z_bipush C (z := (-2)) dX2_indexOf_43 (by decide) ?_
        refine z_iret (x := (-2)) C dX2_indexOf_45 () ?_ ?_ ?_ (by decide) (by decide)
        · rw [ixC]; first | rw [if_pos (by omega)] | rw [if_neg (by omega)]
        · exact trivial
        · exact rfl
      · refine z_iload_n C dX2_indexOf_14 2 rfl ?_
        refine z_aload_n C dX2_indexOf_15 0 rfl ?_
        refine z_get C hinX2 (ci := 4) rfl 2 rfl 2 (by decide) k0 rfl (v := vI ((co + 63) / 64)) rfl dX2_indexOf_16 ?_
        refine z_icmp_ge C (by omega) (by omega) (tgt := 26) dX2_indexOf_19 (by decide) (fun c7 => ?_) (fun c7 => ?_)
        · refine z_iconst C (z := 0) dX2_indexOf_26 ?_
          refine z_istore_n C (lv' := [(3, vI 0), (0, .ref (a 2)), (1, vI r), (2, vI k)]) dX2_indexOf_27 rfl (by decide) rfl ?_
          refine z_iload_n C dX2_indexOf_28 0 rfl ?_
          refine z_if_eq C (by decide) (tgt := 43) dX2_indexOf_29 (by decide) (fun c8 => ?_) (fun c8 => ?_)
          rotate_left; · exact absurd c8 (by decide)
          refine z_bipush C (z := (-2)) dX2_indexOf_43 (by decide) ?_
          refine z_iret (x := (-2)) C dX2_indexOf_45 () ?_ ?_ ?_ (by decide) (by decide)
          · rw [ixC]; first | rw [if_pos (by omega)] | rw [if_neg (by omega)]
          · exact trivial
          · exact rfl
        · refine z_iconst C (z := 1) dX2_indexOf_22 ?_
          refine z_goto C (tgt := 27) dX2_indexOf_23 (by decide) ?_
          refine z_istore_n C (lv' := [(3, vI 1), (0, .ref (a 2)), (1, vI r), (2, vI k)]) dX2_indexOf_27 rfl (by decide) rfl ?_
          refine z_iload_n C dX2_indexOf_28 0 rfl ?_
          refine z_if_eq C (by decide) (tgt := 43) dX2_indexOf_29 (by decide) (fun c9 => ?_) (fun c9 => ?_)
          · exact absurd c9 (by decide)
          refine z_iload_n C dX2_indexOf_32 2 rfl ?_
          refine z_aload_n C dX2_indexOf_33 1 rfl ?_
          refine z_get C hinX2 (ci := 4) rfl 2 rfl 2 (by decide) k0 rfl (v := vI ((co + 63) / 64)) rfl dX2_indexOf_34 ?_
          refine z_imul C dX2_indexOf_37 ?_
          refine z_iload_n C dX2_indexOf_38 3 rfl ?_
          refine z_iadd C dX2_indexOf_39 ?_
          refine z_goto C (tgt := 45) dX2_indexOf_40 (by decide) ?_
          refine z_iret (x := ((r * ((co + 63) / 64)) + k)) C dX2_indexOf_45 () ?_ ?_ ?_ (by decide) (by decide)
          · rw [ixC]; first | rw [if_pos (by omega)] | rw [if_neg (by omega)]
          · exact trivial
          · exact rfl
theorem kn_X2_wordOf : zKn yX2_wordOf wsX2_wordOf cX2_wordOf 4 (some .long) 2 := ⟨⟨_, rfl⟩, by decide +kernel, by decide +kernel, by decide +kernel⟩
set_option maxHeartbeats 400000 in
set_option maxRecDepth 100000 in
theorem c_X2_wordOf (l : Launch) (D : va_G) (cy : Nat → ClassId) (tw : Nat → Nat) (a : Nat → Nat) (kd : Int) (co : Int) (mk : Bool) (al : Bool) (dz : Bool) (rd : Bool) (rw : Int) (wo : Nat → BitVec 64) (sa : Nat → Int) (sz : Int) (ps : Int) (bt : Nat → Int) (ou : Nat → Int) (bi : Int) (dm : Int) (pl : Bool) (re : Int) (cu : Bool) (r : Int) (k : Int)  (hco : 1 ≤ co ∧ co ≤ 700) (hr : -100 ≤ r ∧ r ≤ 100) (hk : -100 ≤ k ∧ k ≤ 100) : zMet l yX2_wordOf wsX2_wordOf { frames := 1, cells := 0, slots := 0, locals := 23 } D (zT cy) tw (CW cy a kd co mk al dz rd rw wo sa sz ps bt ou bi dm pl re cu) [.ref (a 2), vI r, vI k] 0 0 (S := Unit) (fun _ => some (vJ (wdC wo co r k))) (fun _ => CW cy a kd co mk al dz rd rw wo sa sz ps bt ou bi dm pl re cu) (fun _ => True) := by
  refine z_met (cc := cX2_wordOf) (nL := 4) (ret := some .long) (by decide +kernel) rfl (Nat.le_of_ble_eq_true rfl) (lv := [(0, .ref (a 2)), (1, vI r), (2, vI k)]) rfl ?_
  intro V p_ e_ s_ m_ args_ below_ meth_ c_ A_ C hmn
  have hinX2 : ∀ w ∈ u_ws RX2 TX2 5, w ∈ wsX2_wordOf := by decide +kernel
  have k0 : Cond.fieldLink RX2 22 "FaxFilter$Picture" "words" "[J" ∈ wsX2_wordOf := List.mem_of_getElem? (i := 1) rfl
  have hwn := wn_eq hco.1
  have hix := ixC_or co r k
  refine z_aload_n C dX2_wordOf_0 0 rfl ?_
  refine z_iload_n C dX2_wordOf_1 1 rfl ?_
  refine z_iload_n C dX2_wordOf_2 2 rfl ?_
  refine z_callV C (As := [vI r, vI k]) (st := []) (c_X2_indexOf l D cy tw a kd co mk al dz rd rw wo sa sz ps bt ou bi dm pl re cu r k  (by omega) (by omega) (by omega)) gX2_wordOf_X2_indexOf kn_X2_indexOf rfl ⟨rfl, rfl, Nat.le_of_ble_eq_true rfl, Nat.le_of_ble_eq_true rfl⟩ 2 rfl (ci := 4) rfl rfl (Nat.le_of_ble_eq_true rfl) ⟨Nat.le_of_ble_eq_true rfl, Nat.le_of_ble_eq_true rfl⟩ dX2_wordOf_3 (fun u1 hu1 => ?_)
  clear hu1; clear u1
  show V 0 0 (CW cy a kd co mk al dz rd rw wo sa sz ps bt ou bi dm pl re cu) [(0, .ref (a 2)), (1, vI r), (2, vI k)] [vI (ixC co r k)] 6
  refine z_istore_n C (lv' := [(3, vI (ixC co r k)), (0, .ref (a 2)), (1, vI r), (2, vI k)]) dX2_wordOf_6 rfl (by decide) rfl ?_
  refine z_iload_n C dX2_wordOf_7 0 rfl ?_
  refine z_if_lt C (by omega) (tgt := 29) dX2_wordOf_8 (by decide) (fun c2 => ?_) (fun c2 => ?_)
  · refine z_lconst C dX2_wordOf_29 ?_
    refine z_lret (x := (0#64)) C dX2_wordOf_30 () ?_ ?_ ?_ (by decide) (by decide)
    · rw [wdC]; first | rw [if_pos (by omega)] | rw [if_neg (by omega)]
    · exact trivial
    · exact rfl
  · refine z_iload_n C dX2_wordOf_11 0 rfl ?_
    refine z_aload_n C dX2_wordOf_12 1 rfl ?_
    refine z_get C hinX2 (ci := 4) rfl 2 rfl 3 (by decide) k0 rfl (v := .ref (a 9)) rfl dX2_wordOf_13 ?_
    refine z_alen C 9 2 rfl rfl (N := wn co) rfl dX2_wordOf_16 ?_
    refine z_icmp_ge C (by omega) (by omega) (tgt := 29) dX2_wordOf_17 (by decide) (fun c3 => ?_) (fun c3 => ?_)
    · exfalso; omega
    · refine z_aload_n C dX2_wordOf_20 1 rfl ?_
      refine z_get C hinX2 (ci := 4) rfl 2 rfl 3 (by decide) k0 rfl (v := .ref (a 9)) rfl dX2_wordOf_21 ?_
      refine z_iload_n C dX2_wordOf_24 0 rfl ?_
      refine z_lald C 9 2 (g := wo) rfl rfl (by omega) (by omega) (by omega) dX2_wordOf_25 ?_
      refine z_goto C (tgt := 30) dX2_wordOf_26 (by decide) ?_
      refine z_lret (x := (wo (ixC co r k : Int).toNat)) C dX2_wordOf_30 () ?_ ?_ ?_ (by decide) (by decide)
      · rw [wdC]; first | rw [if_pos (by omega)] | rw [if_neg (by omega)]
      · exact trivial
      · exact rfl
theorem kn_X2_isDark : zKn yX2_isDark wsX2_isDark cX2_isDark 3 (some .boolean) 2 := ⟨⟨_, rfl⟩, by decide +kernel, by decide +kernel, by decide +kernel⟩
set_option maxHeartbeats 400000 in
set_option maxRecDepth 100000 in
theorem c_X2_isDark (l : Launch) (D : va_G) (cy : Nat → ClassId) (tw : Nat → Nat) (a : Nat → Nat) (kd : Int) (co : Int) (mk : Bool) (al : Bool) (dz : Bool) (rd : Bool) (rw : Int) (wo : Nat → BitVec 64) (sa : Nat → Int) (sz : Int) (ps : Int) (bt : Nat → Int) (ou : Nat → Int) (bi : Int) (dm : Int) (pl : Bool) (re : Int) (cu : Bool) (r : Int) (x : Int)  (hco : 1 ≤ co ∧ co ≤ 700) (hr : -100 ≤ r ∧ r ≤ 100) (hx : -1000 ≤ x ∧ x ≤ 1000) : zMet l yX2_isDark wsX2_isDark { frames := 2, cells := 0, slots := 0, locals := 46 } D (zT cy) tw (CW cy a kd co mk al dz rd rw wo sa sz ps bt ou bi dm pl re cu) [.ref (a 2), vI r, vI x] 0 0 (S := Unit) (fun _ => some (vI (b2i (px wo co r x)))) (fun _ => CW cy a kd co mk al dz rd rw wo sa sz ps bt ou bi dm pl re cu) (fun _ => True) := by
  refine z_met (cc := cX2_isDark) (nL := 3) (ret := some .boolean) (by decide +kernel) rfl (Nat.le_of_ble_eq_true rfl) (lv := [(0, .ref (a 2)), (1, vI r), (2, vI x)]) rfl ?_
  intro V p_ e_ s_ m_ args_ below_ meth_ c_ A_ C hmn
  have hinX2 : ∀ w ∈ u_ws RX2 TX2 5, w ∈ wsX2_isDark := by decide +kernel
  have k0 : Cond.fieldLink RX2 15 "FaxFilter$Picture" "columns" "I" ∈ wsX2_isDark := List.mem_of_getElem? (i := 1) rfl
  refine z_iload_n C dX2_isDark_0 2 rfl ?_
  refine z_if_lt C (by omega) (tgt := 34) dX2_isDark_1 (by decide) (fun c1 => ?_) (fun c1 => ?_)
  · refine z_iconst C (z := 0) dX2_isDark_34 ?_
    refine z_zret (b := false) C dX2_isDark_35 () ?_ ?_ ?_ (by decide) (by decide)
    · rw [px, decide_eq_false (by omega)]; rfl
    · exact trivial
    · exact rfl
  · refine z_iload_n C dX2_isDark_4 2 rfl ?_
    refine z_aload_n C dX2_isDark_5 0 rfl ?_
    refine z_get C hinX2 (ci := 4) rfl 2 rfl 0 (by decide) k0 rfl (v := vI co) rfl dX2_isDark_6 ?_
    refine z_icmp_ge C (by omega) (by omega) (tgt := 34) dX2_isDark_9 (by decide) (fun c2 => ?_) (fun c2 => ?_)
    · refine z_iconst C (z := 0) dX2_isDark_34 ?_
      refine z_zret (b := false) C dX2_isDark_35 () ?_ ?_ ?_ (by decide) (by decide)
      · rw [px, decide_eq_false (by omega)]; rfl
      · exact trivial
      · exact rfl
    · refine z_aload_n C dX2_isDark_12 0 rfl ?_
      refine z_iload_n C dX2_isDark_13 1 rfl ?_
      refine z_iload_n C dX2_isDark_14 2 rfl ?_
      refine z_bipush C (z := 64) dX2_isDark_15 (by decide) ?_
      refine z_idiv C dX2_isDark_17 (by omega) (by decide) ?_
      refine z_callV C (As := [vI r, vI (x / 64)]) (st := []) (c_X2_wordOf l D cy tw a kd co mk al dz rd rw wo sa sz ps bt ou bi dm pl re cu r (x / 64)  (by omega) (by omega) (by omega)) gX2_isDark_X2_wordOf kn_X2_wordOf rfl ⟨rfl, rfl, Nat.le_of_ble_eq_true rfl, Nat.le_of_ble_eq_true rfl⟩ 2 rfl (ci := 4) rfl rfl (Nat.le_of_ble_eq_true rfl) ⟨Nat.le_of_ble_eq_true rfl, Nat.le_of_ble_eq_true rfl⟩ dX2_isDark_18 (fun u3 hu3 => ?_)
      clear hu3; clear u3
      show V 0 0 (CW cy a kd co mk al dz rd rw wo sa sz ps bt ou bi dm pl re cu) [(0, .ref (a 2)), (1, vI r), (2, vI x)] [vJ (wdC wo co r (x / 64))] 21
      refine z_iload_n C dX2_isDark_21 2 rfl ?_
      refine z_lushr C (y := x) ((x % 64).toNat) (by omega) (rfl) dX2_isDark_22 ?_
      refine z_lconst C dX2_isDark_23 ?_
      refine z_land C dX2_isDark_24 ?_
      refine z_lconst C dX2_isDark_25 ?_
      refine z_lcmp C dX2_isDark_26 ?_
      refine z_if_eq C (by exact lcm_rg _ _) (tgt := 34) dX2_isDark_27 (by decide) (fun cb => ?_) (fun cb => ?_)
      · refine z_iconst C (z := 0) dX2_isDark_34 ?_
        refine z_zret (b := false) C dX2_isDark_35 () ?_ ?_ ?_ (by decide) (by decide)
        · rw [px, decide_eq_true (by omega), (bit_and1 _ _).mp (lcm_0.mp cb)]; rfl
        · exact trivial
        · exact rfl
      · refine z_iconst C (z := 1) dX2_isDark_30 ?_
        refine z_goto C (tgt := 35) dX2_isDark_31 (by decide) ?_
        refine z_zret (b := true) C dX2_isDark_35 () ?_ ?_ ?_ (by decide) (by decide)
        · rw [px, decide_eq_true (by omega), Bool.of_not_eq_false (fun h => cb (lcm_0.mpr ((bit_and1 _ _).mpr h)))]; rfl
        · exact trivial
        · exact rfl
/-- the places of one word that a painting from x up to y means -/
def pmC (x y k : Int) : BitVec 64 := (18446744073709551615#64 <<< ((if x < 64 * k then 64 * k else x) % 64).toNat) &&& (18446744073709551615#64 >>> ((-(if 64 * k + 64 < y then 64 * k + 64 else y)) % 64).toNat)
def pwC (w : BitVec 64) (x y k : Int) (d : Bool) : BitVec 64 := if d then (w &&& (pmC x y k ^^^ 18446744073709551615#64)) ||| pmC x y k else w &&& (pmC x y k ^^^ 18446744073709551615#64)
def ptC (wo : Nat → BitVec 64) (co r x y : Int) (d : Bool) (h : Int) : Nat → BitVec 64 := fun i => if r * ((co + 63) / 64) + x / 64 ≤ (i : Int) ∧ (i : Int) < r * ((co + 63) / 64) + h then pwC (wo i) x y ((i : Int) - r * ((co + 63) / 64)) d else wo i
def pnC (wo : Nat → BitVec 64) (co r x y : Int) (d : Bool) : Nat → BitVec 64 := if 0 ≤ x ∧ x < y ∧ y ≤ co then ptC wo co r x y d ((y - 1) / 64 + 1) else wo
theorem ptC_0 (wo : Nat → BitVec 64) (co r x y : Int) (d : Bool) : wo = ptC wo co r x y d (x / 64) := by
  funext i
  rw [ptC, if_neg (by omega)]
theorem ptC_s {wo : Nat → BitVec 64} {co r x y k : Int} {d : Bool} (hi : 0 ≤ r * ((co + 63) / 64) + k) (hk : x / 64 ≤ k) : va_up (ptC wo co r x y d k) (r * ((co + 63) / 64) + k).toNat (pwC (ptC wo co r x y d k (r * ((co + 63) / 64) + k).toNat) x y k d) = ptC wo co r x y d (k + 1) := by
  funext i
  unfold va_up
  split
  · rename_i e
    subst e
    rw [ptC, if_neg (by omega), ptC, if_pos (by omega)]
    congr 1
    omega
  · rw [ptC, ptC]
    by_cases h : r * ((co + 63) / 64) + x / 64 ≤ (i : Int) ∧ (i : Int) < r * ((co + 63) / 64) + k
    · rw [if_pos h, if_pos (by omega)]
    · rw [if_neg h, if_neg (by omega)]
def cpC (wo : Nat → BitVec 64) (co r h : Int) : Nat → BitVec 64 := fun i => if r * ((co + 63) / 64) ≤ (i : Int) ∧ (i : Int) < r * ((co + 63) / 64) + h then wdC wo co (r - 1) ((i : Int) - r * ((co + 63) / 64)) else wo i
theorem cpC_0 (wo : Nat → BitVec 64) (co r : Int) : wo = cpC wo co r 0 := by
  funext i
  rw [cpC, if_neg (by omega)]
theorem cpC_up {wo : Nat → BitVec 64} {co r k h : Int} (hh : h ≤ (co + 63) / 64) : wdC (cpC wo co r h) co (r - 1) k = wdC wo co (r - 1) k := by
  have hix := ixC_or co (r - 1) k
  rw [wdC, wdC]
  by_cases h0 : ixC co (r - 1) k < 0
  · rw [if_pos h0, if_pos h0]
  · rw [if_neg h0, if_neg h0, cpC, if_neg ?_]
    have e : (r - 1) * ((co + 63) / 64) = r * ((co + 63) / 64) - ((co + 63) / 64) := by rw [Int.sub_mul, Int.one_mul]
    omega
theorem cpC_s {wo : Nat → BitVec 64} {co r k : Int} (hi : 0 ≤ r * ((co + 63) / 64) + k) (hk : 0 ≤ k) : va_up (cpC wo co r k) (r * ((co + 63) / 64) + k).toNat (wdC wo co (r - 1) k) = cpC wo co r (k + 1) := by
  funext i
  unfold va_up
  split
  · rename_i e
    subst e
    rw [cpC, if_pos (by omega)]
    congr 1
    omega
  · rw [cpC, cpC]
    by_cases h : r * ((co + 63) / 64) ≤ (i : Int) ∧ (i : Int) < r * ((co + 63) / 64) + k
    · rw [if_pos h, if_pos (by omega)]
    · rw [if_neg h, if_neg (by omega)]
theorem kn_X2_paint : zKn yX2_paint wsX2_paint cX2_paint 13 (none) 4 := ⟨⟨_, rfl⟩, by decide +kernel, by decide +kernel, by decide +kernel⟩
set_option maxHeartbeats 400000 in
set_option maxRecDepth 100000 in
theorem c_X2_paint (l : Launch) (D : va_G) (cy : Nat → ClassId) (tw : Nat → Nat) (a : Nat → Nat) (kd : Int) (co : Int) (mk : Bool) (al : Bool) (dz : Bool) (rd : Bool) (rw : Int) (wo : Nat → BitVec 64) (sa : Nat → Int) (sz : Int) (ps : Int) (bt : Nat → Int) (ou : Nat → Int) (bi : Int) (dm : Int) (pl : Bool) (re : Int) (cu : Bool) (r : Int) (x : Int) (y : Int) (d : Bool)  (hco : 1 ≤ co ∧ co ≤ 700) (hr : 0 ≤ r ∧ r < 24) (hx : 0 ≤ x ∧ x ≤ 1000) (hy : 0 ≤ y ∧ y ≤ 1000) : zMet l yX2_paint wsX2_paint { frames := 1, cells := 0, slots := 0, locals := 23 } D (zT cy) tw (CW cy a kd co mk al dz rd rw wo sa sz ps bt ou bi dm pl re cu) [.ref (a 2), vI r, vI x, vI y, vI (b2i d)] 0 0 (S := Unit) (fun _ => none) (fun _ => CW cy a kd co mk al dz rd rw (pnC wo co r x y d) sa sz ps bt ou bi dm pl re cu) (fun _ => True) := by
  refine z_met (cc := cX2_paint) (nL := 13) (ret := none) (by decide +kernel) rfl (Nat.le_of_ble_eq_true rfl) (lv := [(0, .ref (a 2)), (1, vI r), (2, vI x), (3, vI y), (4, vI (b2i d))]) rfl ?_
  intro V p_ e_ s_ m_ args_ below_ meth_ c_ A_ C hmn
  have hinX2 : ∀ w ∈ u_ws RX2 TX2 5, w ∈ wsX2_paint := by decide +kernel
  have k0 : Cond.fieldLink RX2 15 "FaxFilter$Picture" "columns" "I" ∈ wsX2_paint := List.mem_of_getElem? (i := 1) rfl
  have k1 : Cond.constantLong RX2 41 (-1) ∈ wsX2_paint := List.mem_of_getElem? (i := 2) rfl
  have k2 : Cond.methodLink RX2 43 Lib.Math.max.name ∈ wsX2_paint := List.mem_of_getElem? (i := 3) rfl
  have k3 : Cond.static Lib.Math.max.name ∈ wsX2_paint := List.mem_of_getElem? (i := 4) rfl
  have k4 : Cond.initialized "java/lang/Math" ∈ wsX2_paint := List.mem_of_getElem? (i := 5) rfl
  have k5 : Cond.code Lib.Math.max.name Lib.Math.max.code 2 (some .int) ∈ wsX2_paint := List.mem_of_getElem? (i := 6) rfl
  have k6 : Cond.methodLink RX2 48 Lib.Math.min.name ∈ wsX2_paint := List.mem_of_getElem? (i := 7) rfl
  have k7 : Cond.static Lib.Math.min.name ∈ wsX2_paint := List.mem_of_getElem? (i := 8) rfl
  have k8 : Cond.code Lib.Math.min.name Lib.Math.min.code 2 (some .int) ∈ wsX2_paint := List.mem_of_getElem? (i := 9) rfl
  have k9 : Cond.fieldLink RX2 22 "FaxFilter$Picture" "words" "[J" ∈ wsX2_paint := List.mem_of_getElem? (i := 10) rfl
  have hwn := wn_eq hco.1
  refine z_iload_n C dX2_paint_0 2 rfl ?_
  refine z_if_lt C (by omega) (tgt := 17) dX2_paint_1 (by decide) (fun c1 => ?_) (fun c1 => ?_)
  · refine z_vret C dX2_paint_17 () ?_ ?_ ?_ (by decide) (by decide)
    · exact rfl
    · exact trivial
    · rw [pnC, if_neg (by omega)]
  · refine z_iload_n C dX2_paint_4 2 rfl ?_
    refine z_iload_n C dX2_paint_5 3 rfl ?_
    refine z_icmp_ge C (by omega) (by omega) (tgt := 17) dX2_paint_6 (by decide) (fun c2 => ?_) (fun c2 => ?_)
    · refine z_vret C dX2_paint_17 () ?_ ?_ ?_ (by decide) (by decide)
      · exact rfl
      · exact trivial
      · rw [pnC, if_neg (by omega)]
    · refine z_iload_n C dX2_paint_9 3 rfl ?_
      refine z_aload_n C dX2_paint_10 0 rfl ?_
      refine z_get C hinX2 (ci := 4) rfl 2 rfl 0 (by decide) k0 rfl (v := vI co) rfl dX2_paint_11 ?_
      refine z_icmp_le C (by omega) (by omega) (tgt := 18) dX2_paint_14 (by decide) (fun c3 => ?_) (fun c3 => ?_)
      · refine z_iload_n C dX2_paint_18 2 rfl ?_
        refine z_bipush C (z := 64) dX2_paint_19 (by decide) ?_
        refine z_idiv C dX2_paint_21 (by omega) (by decide) ?_
        refine z_istore C (lv' := [(5, vI (x / 64)), (0, .ref (a 2)), (1, vI r), (2, vI x), (3, vI y), (4, vI (b2i d))]) dX2_paint_22 (by decide) rfl ?_
        have J24 : ∀ (f : Nat) (g : Nat → BitVec 64) (k : Int), x / 64 ≤ k ∧ k ≤ (y - 1) / 64 + 1 → g = ptC wo co r x y d k → ((y - 1) / 64 + 1 - k).toNat < f → V 0 0 (CW cy a kd co mk al dz rd rw g sa sz ps bt ou bi dm pl re cu) [(0, .ref (a 2)), (1, vI r), (2, vI x), (3, vI y), (4, vI (b2i d)), (5, vI k)] [] 24 := by
          intro f
          induction f with
          | zero => intro g k i0 i1 hf; exact absurd hf (Nat.not_lt_zero _)
          | succ f ih =>
            intro g k i0 i1 hf
            refine z_iload C dX2_paint_24 5 rfl ?_
            refine z_iload_n C dX2_paint_26 3 rfl ?_
            refine z_iconst C (z := 1) dX2_paint_27 ?_
            refine z_isub C dX2_paint_28 ?_
            refine z_bipush C (z := 64) dX2_paint_29 (by decide) ?_
            refine z_idiv C dX2_paint_31 (by omega) (by decide) ?_
            refine z_icmp_gt C (by omega) (by omega) (tgt := 143) dX2_paint_32 (by decide) (fun c4 => ?_) (fun c4 => ?_)
            · refine z_vret C dX2_paint_143 () ?_ ?_ ?_ (by decide) (by decide)
              · exact rfl
              · exact trivial
              · rw [pnC, if_pos (by omega), i1, show k = (y - 1) / 64 + 1 by omega]
            · refine z_aload_n C dX2_paint_35 0 rfl ?_
              have hix := ixC_in (co := co) (k := k) hr (by omega)
              refine z_iload_n C dX2_paint_36 1 rfl ?_
              refine z_iload C dX2_paint_37 5 rfl ?_
              refine z_callV C (As := [vI r, vI k]) (st := []) (c_X2_indexOf l D cy tw a kd co mk al dz rd rw g sa sz ps bt ou bi dm pl re cu r k  (by omega) (by omega) (by omega)) gX2_paint_X2_indexOf kn_X2_indexOf rfl ⟨rfl, rfl, Nat.le_of_ble_eq_true rfl, Nat.le_of_ble_eq_true rfl⟩ 2 rfl (ci := 4) rfl rfl (Nat.le_of_ble_eq_true rfl) ⟨Nat.le_of_ble_eq_true rfl, Nat.le_of_ble_eq_true rfl⟩ dX2_paint_39 (fun u5 hu5 => ?_)
              clear hu5; clear u5
              show V 0 0 (CW cy a kd co mk al dz rd rw g sa sz ps bt ou bi dm pl re cu) [(0, .ref (a 2)), (1, vI r), (2, vI x), (3, vI y), (4, vI (b2i d)), (5, vI k)] [vI (ixC co r k)] 42
              refine z_istore C (lv' := [(6, vI (ixC co r k)), (0, .ref (a 2)), (1, vI r), (2, vI x), (3, vI y), (4, vI (b2i d)), (5, vI k)]) dX2_paint_42 (by decide) rfl ?_
              refine z_ldc2 C (w := 18446744073709551615#64) k1 dX2_paint_44 ?_
              refine z_iload_n C dX2_paint_47 3 rfl ?_
              refine z_bipush C (z := 64) dX2_paint_48 (by decide) ?_
              refine z_iload C dX2_paint_50 6 rfl ?_
              refine z_imul C dX2_paint_52 ?_
              refine z_mmax C k2 k3 k4 k5 (Nat.le_of_ble_eq_true rfl) (Nat.le_of_ble_eq_true rfl) (Nat.le_of_ble_eq_true rfl) (Nat.le_of_ble_eq_true rfl) (x := x) (y := (64 * k)) (by omega) (by omega) dX2_paint_53 ?_
              refine z_lshl C (y := (if x < 64 * k then 64 * k else x)) (((if x < 64 * k then 64 * k else x) % 64).toNat) (by split <;> omega) (rfl) dX2_paint_56 ?_
              refine z_lstore C (lv' := [(7, vJ ((18446744073709551615#64) <<< (((if x < 64 * k then 64 * k else x) % 64).toNat))), (6, vI (ixC co r k)), (0, .ref (a 2)), (1, vI r), (2, vI x), (3, vI y), (4, vI (b2i d)), (5, vI k)]) dX2_paint_57 (by decide) rfl ?_
              refine z_ldc2 C (w := 18446744073709551615#64) k1 dX2_paint_59 ?_
              refine z_iload_n C dX2_paint_62 5 rfl ?_
              refine z_bipush C (z := 64) dX2_paint_63 (by decide) ?_
              refine z_iload C dX2_paint_65 7 rfl ?_
              refine z_imul C dX2_paint_67 ?_
              refine z_bipush C (z := 64) dX2_paint_68 (by decide) ?_
              refine z_iadd C dX2_paint_70 ?_
              refine z_mmin C k6 k7 k4 k8 (Nat.le_of_ble_eq_true rfl) (Nat.le_of_ble_eq_true rfl) (Nat.le_of_ble_eq_true rfl) (Nat.le_of_ble_eq_true rfl) (x := y) (y := ((64 * k) + 64)) (by omega) (by omega) dX2_paint_71 ?_
              refine z_ineg C dX2_paint_74 ?_
              refine z_lushr C (y := (-(if (64 * k) + 64 < y then (64 * k) + 64 else y))) (((-(if (64 * k) + 64 < y then (64 * k) + 64 else y)) % 64).toNat) (by split <;> omega) (rfl) dX2_paint_75 ?_
              refine z_lstore C (lv' := [(9, vJ ((18446744073709551615#64) >>> (((-(if (64 * k) + 64 < y then (64 * k) + 64 else y)) % 64).toNat))), (7, vJ ((18446744073709551615#64) <<< (((if x < 64 * k then 64 * k else x) % 64).toNat))), (6, vI (ixC co r k)), (0, .ref (a 2)), (1, vI r), (2, vI x), (3, vI y), (4, vI (b2i d)), (5, vI k)]) dX2_paint_76 (by decide) rfl ?_
              refine z_iload C dX2_paint_78 2 rfl ?_
              refine z_if_lt C (by omega) (tgt := 137) dX2_paint_80 (by decide) (fun c6 => ?_) (fun c6 => ?_)
              · exfalso; omega
              · refine z_iload C dX2_paint_83 2 rfl ?_
                refine z_aload_n C dX2_paint_85 3 rfl ?_
                refine z_get C hinX2 (ci := 4) rfl 2 rfl 3 (by decide) k9 rfl (v := .ref (a 9)) rfl dX2_paint_86 ?_
                refine z_alen C 9 2 rfl rfl (N := wn co) rfl dX2_paint_89 ?_
                refine z_icmp_ge C (by omega) (by omega) (tgt := 137) dX2_paint_90 (by decide) (fun c7 => ?_) (fun c7 => ?_)
                · exfalso; omega
                · refine z_aload_n C dX2_paint_93 3 rfl ?_
                  refine z_get C hinX2 (ci := 4) rfl 2 rfl 3 (by decide) k9 rfl (v := .ref (a 9)) rfl dX2_paint_94 ?_
                  refine z_iload C dX2_paint_97 2 rfl ?_
                  refine z_lald C 9 2 (g := g) rfl rfl (by omega) (by omega) (by omega) dX2_paint_99 ?_
                  refine z_lload C dX2_paint_100 1 rfl ?_
                  refine z_lload C dX2_paint_102 0 rfl ?_
                  refine z_land C dX2_paint_104 ?_
                  refine z_ldc2 C (w := 18446744073709551615#64) k1 dX2_paint_105 ?_
                  refine z_lxor C dX2_paint_108 ?_
                  refine z_land C dX2_paint_109 ?_
                  refine z_lstore C (lv' := [(11, vJ ((g (ixC co r k : Int).toNat) &&& ((((18446744073709551615#64) <<< (((if x < 64 * k then 64 * k else x) % 64).toNat)) &&& ((18446744073709551615#64) >>> (((-(if (64 * k) + 64 < y then (64 * k) + 64 else y)) % 64).toNat))) ^^^ (18446744073709551615#64)))), (9, vJ ((18446744073709551615#64) >>> (((-(if (64 * k) + 64 < y then (64 * k) + 64 else y)) % 64).toNat))), (7, vJ ((18446744073709551615#64) <<< (((if x < 64 * k then 64 * k else x) % 64).toNat))), (6, vI (ixC co r k)), (0, .ref (a 2)), (1, vI r), (2, vI x), (3, vI y), (4, vI (b2i d)), (5, vI k)]) dX2_paint_110 (by decide) rfl ?_
                  refine z_aload_n C dX2_paint_112 4 rfl ?_
                  refine z_get C hinX2 (ci := 4) rfl 2 rfl 3 (by decide) k9 rfl (v := .ref (a 9)) rfl dX2_paint_113 ?_
                  refine z_iload C dX2_paint_116 3 rfl ?_
                  refine z_iload C dX2_paint_118 8 rfl ?_
                  refine z_ifz C (tgt := 134) dX2_paint_120 (by decide) (fun cd => ?_) (fun cd => ?_)
                  · refine z_lload C dX2_paint_134 0 rfl ?_
                    refine z_last C 9 2 (g := g) rfl rfl (by omega) (by omega) (by omega) dX2_paint_136 (ws' := CW cy a kd co mk al dz rd rw (va_up g (ixC co r k : Int).toNat ((g (ixC co r k : Int).toNat) &&& ((((18446744073709551615#64) <<< (((if x < 64 * k then 64 * k else x) % 64).toNat)) &&& ((18446744073709551615#64) >>> (((-(if (64 * k) + 64 < y then (64 * k) + 64 else y)) % 64).toNat))) ^^^ (18446744073709551615#64)))) sa sz ps bt ou bi dm pl re cu) rfl ?_
                    refine z_iinc C (lv' := [(5, vI (k + 1)), (11, vJ ((g (ixC co r k : Int).toNat) &&& ((((18446744073709551615#64) <<< (((if x < 64 * k then 64 * k else x) % 64).toNat)) &&& ((18446744073709551615#64) >>> (((-(if (64 * k) + 64 < y then (64 * k) + 64 else y)) % 64).toNat))) ^^^ (18446744073709551615#64)))), (9, vJ ((18446744073709551615#64) >>> (((-(if (64 * k) + 64 < y then (64 * k) + 64 else y)) % 64).toNat))), (7, vJ ((18446744073709551615#64) <<< (((if x < 64 * k then 64 * k else x) % 64).toNat))), (6, vI (ixC co r k)), (0, .ref (a 2)), (1, vI r), (2, vI x), (3, vI y), (4, vI (b2i d))]) dX2_paint_137 9 rfl (by decide) rfl ?_
                    refine z_goto C (tgt := 24) dX2_paint_140 (by decide) ?_
                    refine z_lsub C [5, 6, 7, 8, 9, 0] rfl ?_
                    exact ih (va_up g (ixC co r k : Int).toNat ((g (ixC co r k : Int).toNat) &&& ((((18446744073709551615#64) <<< (((if x < 64 * k then 64 * k else x) % 64).toNat)) &&& ((18446744073709551615#64) >>> (((-(if (64 * k) + 64 < y then (64 * k) + 64 else y)) % 64).toNat))) ^^^ (18446744073709551615#64)))) (k + 1) (by omega) (by rw [hix.1, i1]; have := ptC_s (wo := wo) (x := x) (y := y) (d := d) (show 0 ≤ r * ((co + 63) / 64) + k by omega) i0.1; subst cd; rw [pwC] at this; exact this) (by omega)
                  · refine z_lload C dX2_paint_123 0 rfl ?_
                    refine z_lload C dX2_paint_125 2 rfl ?_
                    refine z_lload C dX2_paint_127 1 rfl ?_
                    refine z_land C dX2_paint_129 ?_
                    refine z_lor C dX2_paint_130 ?_
                    refine z_goto C (tgt := 136) dX2_paint_131 (by decide) ?_
                    refine z_last C 9 2 (g := g) rfl rfl (by omega) (by omega) (by omega) dX2_paint_136 (ws' := CW cy a kd co mk al dz rd rw (va_up g (ixC co r k : Int).toNat (((g (ixC co r k : Int).toNat) &&& ((((18446744073709551615#64) <<< (((if x < 64 * k then 64 * k else x) % 64).toNat)) &&& ((18446744073709551615#64) >>> (((-(if (64 * k) + 64 < y then (64 * k) + 64 else y)) % 64).toNat))) ^^^ (18446744073709551615#64))) ||| (((18446744073709551615#64) <<< (((if x < 64 * k then 64 * k else x) % 64).toNat)) &&& ((18446744073709551615#64) >>> (((-(if (64 * k) + 64 < y then (64 * k) + 64 else y)) % 64).toNat))))) sa sz ps bt ou bi dm pl re cu) rfl ?_
                    refine z_iinc C (lv' := [(5, vI (k + 1)), (11, vJ ((g (ixC co r k : Int).toNat) &&& ((((18446744073709551615#64) <<< (((if x < 64 * k then 64 * k else x) % 64).toNat)) &&& ((18446744073709551615#64) >>> (((-(if (64 * k) + 64 < y then (64 * k) + 64 else y)) % 64).toNat))) ^^^ (18446744073709551615#64)))), (9, vJ ((18446744073709551615#64) >>> (((-(if (64 * k) + 64 < y then (64 * k) + 64 else y)) % 64).toNat))), (7, vJ ((18446744073709551615#64) <<< (((if x < 64 * k then 64 * k else x) % 64).toNat))), (6, vI (ixC co r k)), (0, .ref (a 2)), (1, vI r), (2, vI x), (3, vI y), (4, vI (b2i d))]) dX2_paint_137 9 rfl (by decide) rfl ?_
                    refine z_goto C (tgt := 24) dX2_paint_140 (by decide) ?_
                    refine z_lsub C [5, 6, 7, 8, 9, 0] rfl ?_
                    exact ih (va_up g (ixC co r k : Int).toNat (((g (ixC co r k : Int).toNat) &&& ((((18446744073709551615#64) <<< (((if x < 64 * k then 64 * k else x) % 64).toNat)) &&& ((18446744073709551615#64) >>> (((-(if (64 * k) + 64 < y then (64 * k) + 64 else y)) % 64).toNat))) ^^^ (18446744073709551615#64))) ||| (((18446744073709551615#64) <<< (((if x < 64 * k then 64 * k else x) % 64).toNat)) &&& ((18446744073709551615#64) >>> (((-(if (64 * k) + 64 < y then (64 * k) + 64 else y)) % 64).toNat))))) (k + 1) (by omega) (by rw [hix.1, i1]; have := ptC_s (wo := wo) (x := x) (y := y) (d := d) (show 0 ≤ r * ((co + 63) / 64) + k by omega) i0.1; subst cd; rw [pwC] at this; exact this) (by omega)
        refine z_lsub C [1, 2, 3, 4, 5, 0] rfl ?_
        exact J24 _ wo (x / 64) (by omega) (ptC_0 wo co r x y d) (Nat.lt_succ_self _)
      · refine z_vret C dX2_paint_17 () ?_ ?_ ?_ (by decide) (by decide)
        · exact rfl
        · exact trivial
        · rw [pnC, if_neg (by omega)]
theorem kn_X2_whiten : zKn yX2_whiten wsX2_whiten cX2_whiten 2 (none) 1 := ⟨⟨_, rfl⟩, by decide +kernel, by decide +kernel, by decide +kernel⟩
set_option maxHeartbeats 400000 in
set_option maxRecDepth 100000 in
theorem c_X2_whiten (l : Launch) (D : va_G) (cy : Nat → ClassId) (tw : Nat → Nat) (a : Nat → Nat) (kd : Int) (co : Int) (mk : Bool) (al : Bool) (dz : Bool) (rd : Bool) (rw : Int) (wo : Nat → BitVec 64) (sa : Nat → Int) (sz : Int) (ps : Int) (bt : Nat → Int) (ou : Nat → Int) (bi : Int) (dm : Int) (pl : Bool) (re : Int) (cu : Bool) (r : Int)  (hco : 1 ≤ co ∧ co ≤ 700) (hr : 0 ≤ r ∧ r < 24) : zMet l yX2_whiten wsX2_whiten { frames := 2, cells := 0, slots := 0, locals := 55 } D (zT cy) tw (CW cy a kd co mk al dz rd rw wo sa sz ps bt ou bi dm pl re cu) [.ref (a 2), vI r] 0 0 (S := Unit) (fun _ => none) (fun _ => CW cy a kd co mk al dz rd rw (pnC wo co r 0 co false) sa sz ps bt ou bi dm pl re cu) (fun _ => True) := by
  refine z_met (cc := cX2_whiten) (nL := 2) (ret := none) (by decide +kernel) rfl (Nat.le_of_ble_eq_true rfl) (lv := [(0, .ref (a 2)), (1, vI r)]) rfl ?_
  intro V p_ e_ s_ m_ args_ below_ meth_ c_ A_ C hmn
  have hinX2 : ∀ w ∈ u_ws RX2 TX2 5, w ∈ wsX2_whiten := by decide +kernel
  have k0 : Cond.fieldLink RX2 15 "FaxFilter$Picture" "columns" "I" ∈ wsX2_whiten := List.mem_of_getElem? (i := 1) rfl
  refine z_aload_n C dX2_whiten_0 0 rfl ?_
  refine z_iload_n C dX2_whiten_1 1 rfl ?_
  refine z_iconst C (z := 0) dX2_whiten_2 ?_
  refine z_aload_n C dX2_whiten_3 0 rfl ?_
  refine z_get C hinX2 (ci := 4) rfl 2 rfl 0 (by decide) k0 rfl (v := vI co) rfl dX2_whiten_4 ?_
  refine z_iconst C (z := 0) dX2_whiten_7 ?_
  refine z_callV C (As := [vI r, vI 0, vI co, vI 0]) (st := []) (c_X2_paint l D cy tw a kd co mk al dz rd rw wo sa sz ps bt ou bi dm pl re cu r 0 co false  (by omega) (by omega) (by omega) (by omega)) gX2_whiten_X2_paint kn_X2_paint rfl ⟨rfl, rfl, Nat.le_of_ble_eq_true rfl, Nat.le_of_ble_eq_true rfl⟩ 2 rfl (ci := 4) rfl rfl (Nat.le_of_ble_eq_true rfl) ⟨Nat.le_of_ble_eq_true rfl, Nat.le_of_ble_eq_true rfl⟩ dX2_whiten_8 (fun u1 hu1 => ?_)
  clear hu1; clear u1
  show V 0 0 (CW cy a kd co mk al dz rd rw (pnC wo co r 0 co false) sa sz ps bt ou bi dm pl re cu) [(0, .ref (a 2)), (1, vI r)] [] 11
  refine z_vret C dX2_whiten_11 () ?_ ?_ ?_ (by decide) (by decide)
  · exact rfl
  · exact trivial
  · exact rfl
theorem kn_X2_copyAbove : zKn yX2_copyAbove wsX2_copyAbove cX2_copyAbove 4 (none) 1 := ⟨⟨_, rfl⟩, by decide +kernel, by decide +kernel, by decide +kernel⟩
set_option maxHeartbeats 400000 in
set_option maxRecDepth 100000 in
theorem c_X2_copyAbove (l : Launch) (D : va_G) (cy : Nat → ClassId) (tw : Nat → Nat) (a : Nat → Nat) (kd : Int) (co : Int) (mk : Bool) (al : Bool) (dz : Bool) (rd : Bool) (rw : Int) (wo : Nat → BitVec 64) (sa : Nat → Int) (sz : Int) (ps : Int) (bt : Nat → Int) (ou : Nat → Int) (bi : Int) (dm : Int) (pl : Bool) (re : Int) (cu : Bool) (r : Int)  (hco : 1 ≤ co ∧ co ≤ 700) (hr : 0 ≤ r ∧ r < 24) : zMet l yX2_copyAbove wsX2_copyAbove { frames := 2, cells := 0, slots := 0, locals := 46 } D (zT cy) tw (CW cy a kd co mk al dz rd rw wo sa sz ps bt ou bi dm pl re cu) [.ref (a 2), vI r] 0 0 (S := Unit) (fun _ => none) (fun _ => CW cy a kd co mk al dz rd rw (cpC wo co r ((co + 63) / 64)) sa sz ps bt ou bi dm pl re cu) (fun _ => True) := by
  refine z_met (cc := cX2_copyAbove) (nL := 4) (ret := none) (by decide +kernel) rfl (Nat.le_of_ble_eq_true rfl) (lv := [(0, .ref (a 2)), (1, vI r)]) rfl ?_
  intro V p_ e_ s_ m_ args_ below_ meth_ c_ A_ C hmn
  have hinX2 : ∀ w ∈ u_ws RX2 TX2 5, w ∈ wsX2_copyAbove := by decide +kernel
  have k0 : Cond.fieldLink RX2 19 "FaxFilter$Picture" "wide" "I" ∈ wsX2_copyAbove := List.mem_of_getElem? (i := 1) rfl
  have k1 : Cond.fieldLink RX2 22 "FaxFilter$Picture" "words" "[J" ∈ wsX2_copyAbove := List.mem_of_getElem? (i := 2) rfl
  have hwn := wn_eq hco.1
  refine z_iconst C (z := 0) dX2_copyAbove_0 ?_
  refine z_istore_n C (lv' := [(2, vI 0), (0, .ref (a 2)), (1, vI r)]) dX2_copyAbove_1 rfl (by decide) rfl ?_
  have J2 : ∀ (f : Nat) (g : Nat → BitVec 64) (k : Int), 0 ≤ k ∧ k ≤ (co + 63) / 64 → g = cpC wo co r k → ((co + 63) / 64 - k).toNat < f → V 0 0 (CW cy a kd co mk al dz rd rw g sa sz ps bt ou bi dm pl re cu) [(0, .ref (a 2)), (1, vI r), (2, vI k)] [] 2 := by
    intro f
    induction f with
    | zero => intro g k i0 i1 hf; exact absurd hf (Nat.not_lt_zero _)
    | succ f ih =>
      intro g k i0 i1 hf
      refine z_iload_n C dX2_copyAbove_2 2 rfl ?_
      refine z_aload_n C dX2_copyAbove_3 0 rfl ?_
      refine z_get C hinX2 (ci := 4) rfl 2 rfl 2 (by decide) k0 rfl (v := vI ((co + 63) / 64)) rfl dX2_copyAbove_4 ?_
      refine z_icmp_ge C (by omega) (by omega) (tgt := 50) dX2_copyAbove_7 (by decide) (fun c1 => ?_) (fun c1 => ?_)
      · refine z_vret C dX2_copyAbove_50 () ?_ ?_ ?_ (by decide) (by decide)
        · exact rfl
        · exact trivial
        · rw [i1, show k = (co + 63) / 64 by omega]
      · refine z_aload_n C dX2_copyAbove_10 0 rfl ?_
        have hix := ixC_in (co := co) (k := k) hr (by omega)
        refine z_iload_n C dX2_copyAbove_11 1 rfl ?_
        refine z_iload_n C dX2_copyAbove_12 2 rfl ?_
        refine z_callV C (As := [vI r, vI k]) (st := []) (c_X2_indexOf l D cy tw a kd co mk al dz rd rw g sa sz ps bt ou bi dm pl re cu r k  (by omega) (by omega) (by omega)) gX2_copyAbove_X2_indexOf kn_X2_indexOf rfl ⟨rfl, rfl, Nat.le_of_ble_eq_true rfl, Nat.le_of_ble_eq_true rfl⟩ 2 rfl (ci := 4) rfl rfl (Nat.le_of_ble_eq_true rfl) ⟨Nat.le_of_ble_eq_true rfl, Nat.le_of_ble_eq_true rfl⟩ dX2_copyAbove_13 (fun u2 hu2 => ?_)
        clear hu2; clear u2
        show V 0 0 (CW cy a kd co mk al dz rd rw g sa sz ps bt ou bi dm pl re cu) [(0, .ref (a 2)), (1, vI r), (2, vI k)] [vI (ixC co r k)] 16
        refine z_istore_n C (lv' := [(3, vI (ixC co r k)), (0, .ref (a 2)), (1, vI r), (2, vI k)]) dX2_copyAbove_16 rfl (by decide) rfl ?_
        refine z_iload_n C dX2_copyAbove_17 0 rfl ?_
        refine z_if_lt C (by omega) (tgt := 44) dX2_copyAbove_18 (by decide) (fun c3 => ?_) (fun c3 => ?_)
        · exfalso; omega
        · refine z_iload_n C dX2_copyAbove_21 0 rfl ?_
          refine z_aload_n C dX2_copyAbove_22 1 rfl ?_
          refine z_get C hinX2 (ci := 4) rfl 2 rfl 3 (by decide) k1 rfl (v := .ref (a 9)) rfl dX2_copyAbove_23 ?_
          refine z_alen C 9 2 rfl rfl (N := wn co) rfl dX2_copyAbove_26 ?_
          refine z_icmp_ge C (by omega) (by omega) (tgt := 44) dX2_copyAbove_27 (by decide) (fun c4 => ?_) (fun c4 => ?_)
          · exfalso; omega
          · refine z_aload_n C dX2_copyAbove_30 1 rfl ?_
            refine z_get C hinX2 (ci := 4) rfl 2 rfl 3 (by decide) k1 rfl (v := .ref (a 9)) rfl dX2_copyAbove_31 ?_
            refine z_iload_n C dX2_copyAbove_34 0 rfl ?_
            refine z_aload_n C dX2_copyAbove_35 1 rfl ?_
            refine z_iload_n C dX2_copyAbove_36 2 rfl ?_
            refine z_iconst C (z := 1) dX2_copyAbove_37 ?_
            refine z_isub C dX2_copyAbove_38 ?_
            refine z_iload_n C dX2_copyAbove_39 3 rfl ?_
            refine z_callV C (As := [vI (r - 1), vI k]) (st := [vI (ixC co r k), .ref (a 9)]) (c_X2_wordOf l D cy tw a kd co mk al dz rd rw g sa sz ps bt ou bi dm pl re cu (r - 1) k  (by omega) (by omega) (by omega)) gX2_copyAbove_X2_wordOf kn_X2_wordOf rfl ⟨rfl, rfl, Nat.le_of_ble_eq_true rfl, Nat.le_of_ble_eq_true rfl⟩ 2 rfl (ci := 4) rfl rfl (Nat.le_of_ble_eq_true rfl) ⟨Nat.le_of_ble_eq_true rfl, Nat.le_of_ble_eq_true rfl⟩ dX2_copyAbove_40 (fun u5 hu5 => ?_)
            clear hu5; clear u5
            show V 0 0 (CW cy a kd co mk al dz rd rw g sa sz ps bt ou bi dm pl re cu) [(3, vI (ixC co r k)), (0, .ref (a 2)), (1, vI r), (2, vI k)] [vJ (wdC g co (r - 1) k), vI (ixC co r k), .ref (a 9)] 43
            refine z_last C 9 2 (g := g) rfl rfl (by omega) (by omega) (by omega) dX2_copyAbove_43 (ws' := CW cy a kd co mk al dz rd rw (va_up g (ixC co r k : Int).toNat (wdC g co (r - 1) k)) sa sz ps bt ou bi dm pl re cu) rfl ?_
            refine z_iinc C (lv' := [(2, vI (k + 1)), (3, vI (ixC co r k)), (0, .ref (a 2)), (1, vI r)]) dX2_copyAbove_44 3 rfl (by decide) rfl ?_
            refine z_goto C (tgt := 2) dX2_copyAbove_47 (by decide) ?_
            refine z_lsub C [2, 3, 0] rfl ?_
            exact ih (va_up g (ixC co r k : Int).toNat (wdC g co (r - 1) k)) (k + 1) (by omega) (by rw [hix.1, i1, cpC_up i0.2]; exact cpC_s (by omega) i0.1) (by omega)
  refine z_lsub C [1, 2, 0] rfl ?_
  exact J2 _ wo 0 (by omega) (cpC_0 wo co r) (Nat.lt_succ_self _)
end
section
/-! the next place of a colour -/
def bcF (i0 : BitVec 64) : Int :=
  let i1 := i0 - ((i0 >>> 1) &&& 6148914691236517205#64)
  let i2 := (i1 &&& 3689348814741910323#64) + ((i1 >>> 2) &&& 3689348814741910323#64)
  let i3 := (i2 + (i2 >>> 4)) &&& 1085102592571150095#64
  let i4 := i3 + (i3 >>> 8)
  let i5 := i4 + (i4 >>> 16)
  let i6 := i5 + (i5 >>> 32)
  i6.toInt % 2 ^ 7
theorem bcF_low : ∀ k : Fin 64, bcF (BitVec.twoPow 64 k.val - 1#64) = (k.val : Int) := by decide +kernel
theorem low_bit (v : BitVec 64) (h : ¬ v = 0#64) : ∃ k : Nat, k < 64 ∧ v.getLsbD k = true ∧ (∀ j : Nat, j < k → v.getLsbD j = false) ∧ v &&& -v = BitVec.twoPow 64 k := by
  have he : ∃ k : Nat, k < 64 ∧ v.getLsbD k = true := by
    apply Classical.byContradiction
    intro hn
    apply h
    apply BitVec.eq_of_getLsbD_eq
    intro i hi
    cases hb : v.getLsbD i with
    | false => simp
    | true => exact absurd ⟨i, hi, hb⟩ hn
  obtain ⟨k, ⟨hk, hb⟩, hmin⟩ := pk_least (fun k => k < 64 ∧ v.getLsbD k = true) he
  have hmin2 : ∀ j : Nat, j < k → v.getLsbD j = false := fun j hj => by
    cases hq : v.getLsbD j with
    | false => rfl
    | true => exact absurd ⟨by omega, hq⟩ (hmin j hj)
  refine ⟨k, hk, hb, hmin2, ?_⟩
  apply BitVec.eq_of_getLsbD_eq
  intro i hi
  rw [BitVec.getLsbD_and, BitVec.getLsbD_neg, BitVec.getLsbD_twoPow]
  rcases Nat.lt_trichotomy i k with h1 | h1 | h1
  · rw [hmin2 i h1]
    simp; omega
  · subst h1
    rw [hb]
    have : ¬ ∃ j, j < i ∧ v.getLsbD j = true := fun ⟨j, h2, h3⟩ => by rw [hmin2 j h2] at h3; cases h3
    simp [hi]
    intro j hj
    exact hmin2 j hj
  · have : ∃ j, j < i ∧ v.getLsbD j = true := ⟨k, h1, hb⟩
    simp [hi, this]
    omega
def fdC (w : BitVec 64) (y : Int) (d : Bool) : BitVec 64 := (if d then w else w ^^^ 18446744073709551615#64) &&& (18446744073709551615#64 <<< (y % 64).toNat)
theorem fdC_t1 (n j : Nat) (hj : j < 64) : (18446744073709551615#64 <<< n).getLsbD j = decide (n ≤ j) := by
  rw [show (18446744073709551615#64 : BitVec 64) = BitVec.allOnes 64 by decide, BitVec.getLsbD_shiftLeft, BitVec.getLsbD_allOnes]
  by_cases h : n ≤ j
  · simp [hj, h, Nat.not_lt.mpr h]
    omega
  · simp [hj, h]
theorem fdC_bit (w : BitVec 64) (y : Int) (d : Bool) (j : Nat) (hj : j < 64) : (fdC w y d).getLsbD j = (decide ((y % 64).toNat ≤ j) && (w.getLsbD j == d)) := by
  rw [fdC, BitVec.getLsbD_and, fdC_t1 _ _ hj, Bool.and_comm]
  congr 1
  cases d
  · rw [if_neg (by decide), BitVec.getLsbD_xor, show (18446744073709551615#64 : BitVec 64) = BitVec.allOnes 64 by decide, BitVec.getLsbD_allOnes, decide_eq_true hj]
    cases w.getLsbD j <;> rfl
  · rw [if_pos rfl]
    cases w.getLsbD j <;> rfl
theorem px_at {wo : Nat → BitVec 64} {co r x : Int} (h : 0 ≤ x ∧ x < co) : px wo co r x = (wdC wo co r (x / 64)).getLsbD (x % 64).toNat := by rw [px, decide_eq_true h]; rfl
theorem nx_skip {wo : Nat → BitVec 64} {co r y : Int} {d : Bool} (h0 : 0 ≤ y) (hf : fdC (wdC wo co r (y / 64)) y d = 0#64) : nxt (px wo co r) co y d = nxt (px wo co r) co (y / 64 * 64 + 63 + 1) d := by
  rw [show y / 64 * 64 + 63 + 1 = y + ((64 - (y % 64).toNat : Nat) : Int) by omega]
  refine nxt_skip _ (fun j h1 h2 h3 => ?_)
  have hb : (fdC (wdC wo co r (y / 64)) y d).getLsbD (j % 64).toNat = false := by rw [hf]; simp
  rw [fdC_bit _ _ _ _ (by omega)] at hb
  rw [px_at ⟨by omega, h3⟩, show j / 64 = y / 64 by omega]
  intro he
  rw [he] at hb
  simp at hb
  omega
theorem nx_hit {wo : Nat → BitVec 64} {co r y : Int} {d : Bool} (h0 : 0 ≤ y) (hf : ¬ fdC (wdC wo co r (y / 64)) y d = 0#64) : nxt (px wo co r) co y d = (if y / 64 * 64 + bcF ((fdC (wdC wo co r (y / 64)) y d &&& -fdC (wdC wo co r (y / 64)) y d) - 1#64) < co then y / 64 * 64 + bcF ((fdC (wdC wo co r (y / 64)) y d &&& -fdC (wdC wo co r (y / 64)) y d) - 1#64) else co) ∧ 0 ≤ bcF ((fdC (wdC wo co r (y / 64)) y d &&& -fdC (wdC wo co r (y / 64)) y d) - 1#64) ∧ bcF ((fdC (wdC wo co r (y / 64)) y d &&& -fdC (wdC wo co r (y / 64)) y d) - 1#64) < 64 := by
  obtain ⟨k, hk, hb, hmin, he⟩ := low_bit _ hf
  have hbc := bcF_low ⟨k, hk⟩
  simp only at hbc
  rw [he, hbc]
  refine ⟨?_, by omega, by omega⟩
  rw [fdC_bit _ _ _ _ hk] at hb
  simp only [Bool.and_eq_true, decide_eq_true_eq, beq_iff_eq] at hb
  have hs : nxt (px wo co r) co y d = nxt (px wo co r) co (y + ((k - (y % 64).toNat : Nat) : Int)) d := by
    refine nxt_skip _ (fun j h1 h2 h3 => ?_)
    have hm := hmin (j % 64).toNat (by omega)
    rw [fdC_bit _ _ _ _ (by omega)] at hm
    rw [px_at ⟨by omega, h3⟩, show j / 64 = y / 64 by omega]
    intro he
    rw [he] at hm
    simp at hm
    omega
  rw [hs, show y + ((k - (y % 64).toNat : Nat) : Int) = y / 64 * 64 + (k : Int) by omega]
  by_cases hc : y / 64 * 64 + (k : Int) < co
  · rw [if_pos hc]
    refine nxt_at hc ?_
    rw [px_at ⟨by omega, hc⟩, show (y / 64 * 64 + (k : Int)) / 64 = y / 64 by omega, show ((y / 64 * 64 + (k : Int)) % 64).toNat = k by omega]
    exact hb.2
  · rw [if_neg hc]
    exact nxt_ge (by omega)
theorem nxt_lo (f : Int → Bool) (N x : Int) (d : Bool) : x ≤ nxt f N x d ∨ N ≤ nxt f N x d := by
  rcases Int.lt_or_le N x with h | h
  · right; rw [nxt_ge (by omega)]; omega
  · left; exact (nxt_rg f N x d).2 h
def chC (f : Int → Bool) (N x : Int) (d : Bool) : Int := nxt f N (if f (x - 1) == d then nxt f N x (!d) else x) d
def crun (f : Int → Bool) (N : Int) : Nat → Int → Bool → Int
  | 0, _, _ => 0
  | n + 1, x, d => if x < N then 1 + crun f N n (nxt f N x (!d)) (!d) else 0
theorem crun_ge {f : Int → Bool} {N x : Int} {d : Bool} (n : Nat) (h : N ≤ x) : crun f N n x d = 0 := by
  cases n with
  | zero => rfl
  | succ n => rw [crun, if_neg (by omega)]
def lrun (f : Int → Bool) (N i : Int) : Nat → Int → Int → Bool → Int
  | 0, _, _, _ => -2
  | n + 1, k, x, d => if x < N then (if k = i then nxt f N x (!d) - x else lrun f N i n (k + 1) (nxt f N x (!d)) (!d)) else -2
theorem lrun_ge {f : Int → Bool} {N i k x : Int} {d : Bool} (n : Nat) (h : N ≤ x) : lrun f N i n k x d = -2 := by
  cases n with
  | zero => rfl
  | succ n => rw [lrun, if_neg (by omega)]
theorem kn_J13_bitCount_95d88 : zKn yJ13_bitCount_95d88 wsJ13_bitCount_95d88 cJ13_bitCount_95d88 2 (some .int) 1 := ⟨⟨_, rfl⟩, by decide +kernel, by decide +kernel, by decide +kernel⟩
set_option maxHeartbeats 400000 in
set_option maxRecDepth 100000 in
theorem c_J13_bitCount_95d88 (l : Launch) (D : va_G) (cy : Nat → ClassId) (tw : Nat → Nat) (a : Nat → Nat) (kd : Int) (co : Int) (mk : Bool) (al : Bool) (dz : Bool) (rd : Bool) (rw : Int) (wo : Nat → BitVec 64) (sa : Nat → Int) (sz : Int) (ps : Int) (bt : Nat → Int) (ou : Nat → Int) (bi : Int) (dm : Int) (pl : Bool) (re : Int) (cu : Bool) (w : BitVec 64)   : zMet l yJ13_bitCount_95d88 wsJ13_bitCount_95d88 { frames := 0, cells := 0, slots := 0, locals := 0 } D (zT cy) tw (CW cy a kd co mk al dz rd rw wo sa sz ps bt ou bi dm pl re cu) [vJ w] 0 0 (S := Unit) (fun _ => some (vI (bcF w))) (fun _ => CW cy a kd co mk al dz rd rw wo sa sz ps bt ou bi dm pl re cu) (fun _ => True) := by
  refine z_met (cc := cJ13_bitCount_95d88) (nL := 2) (ret := some .int) (by decide +kernel) rfl (Nat.le_of_ble_eq_true rfl) (lv := [(0, vJ w)]) rfl ?_
  intro V p_ e_ s_ m_ args_ below_ meth_ c_ A_ C hmn
  have k0 : Cond.constantLong RJ13 314 (6148914691236517205) ∈ wsJ13_bitCount_95d88 := List.mem_of_getElem? (i := 1) rfl
  have k1 : Cond.constantLong RJ13 316 (3689348814741910323) ∈ wsJ13_bitCount_95d88 := List.mem_of_getElem? (i := 2) rfl
  have k2 : Cond.constantLong RJ13 318 (1085102592571150095) ∈ wsJ13_bitCount_95d88 := List.mem_of_getElem? (i := 3) rfl
  refine z_lload_n C dJ13_bitCount_95d88_0 0 rfl ?_
  refine z_lload_n C dJ13_bitCount_95d88_1 0 rfl ?_
  refine z_iconst C (z := 1) dJ13_bitCount_95d88_2 ?_
  refine z_lushr C (y := 1) 1 (by decide) (by decide) dJ13_bitCount_95d88_3 ?_
  refine z_ldc2 C (w := 6148914691236517205#64) k0 dJ13_bitCount_95d88_4 ?_
  refine z_land C dJ13_bitCount_95d88_7 ?_
  refine z_lsub2 C dJ13_bitCount_95d88_8 ?_
  refine z_nmJ (fun i1 ei1 => ?_)
  refine z_lstore_n C (lv' := [(0, vJ i1)]) dJ13_bitCount_95d88_9 rfl (by decide) rfl ?_
  refine z_lload_n C dJ13_bitCount_95d88_10 0 rfl ?_
  refine z_ldc2 C (w := 3689348814741910323#64) k1 dJ13_bitCount_95d88_11 ?_
  refine z_land C dJ13_bitCount_95d88_14 ?_
  refine z_lload_n C dJ13_bitCount_95d88_15 0 rfl ?_
  refine z_iconst C (z := 2) dJ13_bitCount_95d88_16 ?_
  refine z_lushr C (y := 2) 2 (by decide) (by decide) dJ13_bitCount_95d88_17 ?_
  refine z_ldc2 C (w := 3689348814741910323#64) k1 dJ13_bitCount_95d88_18 ?_
  refine z_land C dJ13_bitCount_95d88_21 ?_
  refine z_ladd C dJ13_bitCount_95d88_22 ?_
  refine z_nmJ (fun i2 ei2 => ?_)
  refine z_lstore_n C (lv' := [(0, vJ i2)]) dJ13_bitCount_95d88_23 rfl (by decide) rfl ?_
  refine z_lload_n C dJ13_bitCount_95d88_24 0 rfl ?_
  refine z_lload_n C dJ13_bitCount_95d88_25 0 rfl ?_
  refine z_iconst C (z := 4) dJ13_bitCount_95d88_26 ?_
  refine z_lushr C (y := 4) 4 (by decide) (by decide) dJ13_bitCount_95d88_27 ?_
  refine z_ladd C dJ13_bitCount_95d88_28 ?_
  refine z_ldc2 C (w := 1085102592571150095#64) k2 dJ13_bitCount_95d88_29 ?_
  refine z_land C dJ13_bitCount_95d88_32 ?_
  refine z_nmJ (fun i3 ei3 => ?_)
  refine z_lstore_n C (lv' := [(0, vJ i3)]) dJ13_bitCount_95d88_33 rfl (by decide) rfl ?_
  refine z_lload_n C dJ13_bitCount_95d88_34 0 rfl ?_
  refine z_lload_n C dJ13_bitCount_95d88_35 0 rfl ?_
  refine z_bipush C (z := 8) dJ13_bitCount_95d88_36 (by decide) ?_
  refine z_lushr C (y := 8) 8 (by decide) (by decide) dJ13_bitCount_95d88_38 ?_
  refine z_ladd C dJ13_bitCount_95d88_39 ?_
  refine z_nmJ (fun i4 ei4 => ?_)
  refine z_lstore_n C (lv' := [(0, vJ i4)]) dJ13_bitCount_95d88_40 rfl (by decide) rfl ?_
  refine z_lload_n C dJ13_bitCount_95d88_41 0 rfl ?_
  refine z_lload_n C dJ13_bitCount_95d88_42 0 rfl ?_
  refine z_bipush C (z := 16) dJ13_bitCount_95d88_43 (by decide) ?_
  refine z_lushr C (y := 16) 16 (by decide) (by decide) dJ13_bitCount_95d88_45 ?_
  refine z_ladd C dJ13_bitCount_95d88_46 ?_
  refine z_nmJ (fun i5 ei5 => ?_)
  refine z_lstore_n C (lv' := [(0, vJ i5)]) dJ13_bitCount_95d88_47 rfl (by decide) rfl ?_
  refine z_lload_n C dJ13_bitCount_95d88_48 0 rfl ?_
  refine z_lload_n C dJ13_bitCount_95d88_49 0 rfl ?_
  refine z_bipush C (z := 32) dJ13_bitCount_95d88_50 (by decide) ?_
  refine z_lushr C (y := 32) 32 (by decide) (by decide) dJ13_bitCount_95d88_52 ?_
  refine z_ladd C dJ13_bitCount_95d88_53 ?_
  refine z_nmJ (fun i6 ei6 => ?_)
  refine z_lstore_n C (lv' := [(0, vJ i6)]) dJ13_bitCount_95d88_54 rfl (by decide) rfl ?_
  refine z_lload_n C dJ13_bitCount_95d88_55 0 rfl ?_
  refine z_l2i C dJ13_bitCount_95d88_56 ?_
  refine z_bipush C (z := 127) dJ13_bitCount_95d88_57 (by decide) ?_
  refine z_iand C 7 dJ13_bitCount_95d88_59 (by decide) (by decide) ?_
  refine z_iret (x := (((i6 : BitVec 64).toInt) % 2 ^ 7)) C dJ13_bitCount_95d88_60 () ?_ ?_ ?_ (by decide) (by decide)
  · subst ei6 ei5 ei4 ei3 ei2 ei1; rfl
  · exact trivial
  · exact rfl
theorem kn_X2_nextOf : zKn yX2_nextOf wsX2_nextOf cX2_nextOf 10 (some .int) 3 := ⟨⟨_, rfl⟩, by decide +kernel, by decide +kernel, by decide +kernel⟩
set_option maxHeartbeats 400000 in
set_option maxRecDepth 100000 in
theorem c_X2_nextOf (l : Launch) (D : va_G) (cy : Nat → ClassId) (tw : Nat → Nat) (a : Nat → Nat) (kd : Int) (co : Int) (mk : Bool) (al : Bool) (dz : Bool) (rd : Bool) (rw : Int) (wo : Nat → BitVec 64) (sa : Nat → Int) (sz : Int) (ps : Int) (bt : Nat → Int) (ou : Nat → Int) (bi : Int) (dm : Int) (pl : Bool) (re : Int) (cu : Bool) (r : Int) (x : Int) (d : Bool)  (hco : 1 ≤ co ∧ co ≤ 700) (hr : -50 ≤ r ∧ r ≤ 50) (hx : 0 ≤ x ∧ x ≤ 1000) : zMet l yX2_nextOf wsX2_nextOf { frames := 2, cells := 0, slots := 0, locals := 46 } D (zT cy) tw (CW cy a kd co mk al dz rd rw wo sa sz ps bt ou bi dm pl re cu) [.ref (a 2), vI r, vI x, vI (b2i d)] 0 0 (S := Unit) (fun _ => some (vI (nxt (px wo co r) co x d))) (fun _ => CW cy a kd co mk al dz rd rw wo sa sz ps bt ou bi dm pl re cu) (fun _ => True) := by
  refine z_met (cc := cX2_nextOf) (nL := 10) (ret := some .int) (by decide +kernel) rfl (Nat.le_of_ble_eq_true rfl) (lv := [(0, .ref (a 2)), (1, vI r), (2, vI x), (3, vI (b2i d))]) rfl ?_
  intro V p_ e_ s_ m_ args_ below_ meth_ c_ A_ C hmn
  have hinX2 : ∀ w ∈ u_ws RX2 TX2 5, w ∈ wsX2_nextOf := by decide +kernel
  have k0 : Cond.methodLink RX2 43 Lib.Math.max.name ∈ wsX2_nextOf := List.mem_of_getElem? (i := 1) rfl
  have k1 : Cond.static Lib.Math.max.name ∈ wsX2_nextOf := List.mem_of_getElem? (i := 2) rfl
  have k2 : Cond.initialized "java/lang/Math" ∈ wsX2_nextOf := List.mem_of_getElem? (i := 3) rfl
  have k3 : Cond.code Lib.Math.max.name Lib.Math.max.code 2 (some .int) ∈ wsX2_nextOf := List.mem_of_getElem? (i := 4) rfl
  have k4 : Cond.fieldLink RX2 15 "FaxFilter$Picture" "columns" "I" ∈ wsX2_nextOf := List.mem_of_getElem? (i := 5) rfl
  have k5 : Cond.constantLong RX2 41 (-1) ∈ wsX2_nextOf := List.mem_of_getElem? (i := 6) rfl
  have k6 : Cond.methodLink RX2 48 Lib.Math.min.name ∈ wsX2_nextOf := List.mem_of_getElem? (i := 7) rfl
  have k7 : Cond.static Lib.Math.min.name ∈ wsX2_nextOf := List.mem_of_getElem? (i := 8) rfl
  have k8 : Cond.code Lib.Math.min.name Lib.Math.min.code 2 (some .int) ∈ wsX2_nextOf := List.mem_of_getElem? (i := 9) rfl
  refine z_iconst C (z := 0) dX2_nextOf_0 ?_
  refine z_iload_n C dX2_nextOf_1 2 rfl ?_
  refine z_mmax C k0 k1 k2 k3 (Nat.le_of_ble_eq_true rfl) (Nat.le_of_ble_eq_true rfl) (Nat.le_of_ble_eq_true rfl) (Nat.le_of_ble_eq_true rfl) (x := 0) (y := x) (by decide) (by omega) dX2_nextOf_2 ?_
  refine z_istore C (lv' := [(4, vI (if 0 < x then x else 0)), (0, .ref (a 2)), (1, vI r), (2, vI x), (3, vI (b2i d))]) dX2_nextOf_5 (by decide) rfl ?_
  have J7 : ∀ (f : Nat) (y : Int), 0 ≤ y ∧ y ≤ 1000 → nxt (px wo co r) co x d = nxt (px wo co r) co y d → (co - y).toNat < f → V 0 0 (CW cy a kd co mk al dz rd rw wo sa sz ps bt ou bi dm pl re cu) [(0, .ref (a 2)), (1, vI r), (2, vI x), (3, vI (b2i d)), (4, vI y)] [] 7 := by
    intro f
    induction f with
    | zero => intro y i0 i1 hf; exact absurd hf (Nat.not_lt_zero _)
    | succ f ih =>
      intro y i0 i1 hf
      refine z_iload C dX2_nextOf_7 4 rfl ?_
      refine z_aload_n C dX2_nextOf_9 0 rfl ?_
      refine z_get C hinX2 (ci := 4) rfl 2 rfl 0 (by decide) k4 rfl (v := vI co) rfl dX2_nextOf_10 ?_
      refine z_icmp_ge C (by omega) (by omega) (tgt := 103) dX2_nextOf_13 (by decide) (fun c1 => ?_) (fun c1 => ?_)
      · refine z_aload_n C dX2_nextOf_103 0 rfl ?_
        refine z_get C hinX2 (ci := 4) rfl 2 rfl 0 (by decide) k4 rfl (v := vI co) rfl dX2_nextOf_104 ?_
        refine z_iret (x := co) C dX2_nextOf_107 () ?_ ?_ ?_ (by decide) (by decide)
        · rw [i1, nxt_ge (by omega)]
        · exact trivial
        · exact rfl
      · refine z_aload_n C dX2_nextOf_16 0 rfl ?_
        refine z_iload_n C dX2_nextOf_17 1 rfl ?_
        refine z_iload C dX2_nextOf_18 4 rfl ?_
        refine z_bipush C (z := 64) dX2_nextOf_20 (by decide) ?_
        refine z_idiv C dX2_nextOf_22 (by omega) (by decide) ?_
        refine z_callV C (As := [vI r, vI (y / 64)]) (st := []) (c_X2_wordOf l D cy tw a kd co mk al dz rd rw wo sa sz ps bt ou bi dm pl re cu r (y / 64)  (by omega) (by omega) (by omega)) gX2_nextOf_X2_wordOf kn_X2_wordOf rfl ⟨rfl, rfl, Nat.le_of_ble_eq_true rfl, Nat.le_of_ble_eq_true rfl⟩ 2 rfl (ci := 4) rfl rfl (Nat.le_of_ble_eq_true rfl) ⟨Nat.le_of_ble_eq_true rfl, Nat.le_of_ble_eq_true rfl⟩ dX2_nextOf_23 (fun u2 hu2 => ?_)
        clear hu2; clear u2
        show V 0 0 (CW cy a kd co mk al dz rd rw wo sa sz ps bt ou bi dm pl re cu) [(0, .ref (a 2)), (1, vI r), (2, vI x), (3, vI (b2i d)), (4, vI y)] [vJ (wdC wo co r (y / 64))] 26
        refine z_lstore C (lv' := [(5, vJ (wdC wo co r (y / 64))), (0, .ref (a 2)), (1, vI r), (2, vI x), (3, vI (b2i d)), (4, vI y)]) dX2_nextOf_26 (by decide) rfl ?_
        refine z_iload_n C dX2_nextOf_28 4 rfl ?_
        refine z_ifz C (tgt := 37) dX2_nextOf_29 (by decide) (fun cd => ?_) (fun cd => ?_)
        · refine z_lload C dX2_nextOf_37 0 rfl ?_
          refine z_ldc2 C (w := 18446744073709551615#64) k5 dX2_nextOf_39 ?_
          refine z_lxor C dX2_nextOf_42 ?_
          refine z_ldc2 C (w := 18446744073709551615#64) k5 dX2_nextOf_43 ?_
          refine z_iload C dX2_nextOf_46 5 rfl ?_
          refine z_lshl C (y := y) ((y % 64).toNat) (by omega) (rfl) dX2_nextOf_48 ?_
          refine z_land C dX2_nextOf_49 ?_
          refine z_lstore C (lv' := [(7, vJ (((wdC wo co r (y / 64)) ^^^ (18446744073709551615#64)) &&& ((18446744073709551615#64) <<< ((y % 64).toNat)))), (5, vJ (wdC wo co r (y / 64))), (0, .ref (a 2)), (1, vI r), (2, vI x), (3, vI (b2i d)), (4, vI y)]) dX2_nextOf_50 (by decide) rfl ?_
          refine z_lload C dX2_nextOf_52 0 rfl ?_
          refine z_lconst C dX2_nextOf_54 ?_
          refine z_lcmp C dX2_nextOf_55 ?_
          refine z_if_eq C (by exact lcm_rg _ _) (tgt := 91) dX2_nextOf_56 (by decide) (fun cb => ?_) (fun cb => ?_)
          · refine z_iload C dX2_nextOf_91 6 rfl ?_
            refine z_bipush C (z := 63) dX2_nextOf_93 (by decide) ?_
            refine z_ior63 C (by omega) dX2_nextOf_95 ?_
            refine z_iconst C (z := 1) dX2_nextOf_96 ?_
            refine z_iadd C dX2_nextOf_97 ?_
            refine z_istore C (lv' := [(4, vI ((y / 64 * 64 + 63) + 1)), (7, vJ (((wdC wo co r (y / 64)) ^^^ (18446744073709551615#64)) &&& ((18446744073709551615#64) <<< ((y % 64).toNat)))), (5, vJ (wdC wo co r (y / 64))), (0, .ref (a 2)), (1, vI r), (2, vI x), (3, vI (b2i d))]) dX2_nextOf_98 (by decide) rfl ?_
            refine z_goto C (tgt := 7) dX2_nextOf_100 (by decide) ?_
            refine z_lsub C [3, 4, 5, 6, 0] rfl ?_
            exact ih ((y / 64 * 64 + 63) + 1) (by omega) (by have hf : fdC (wdC wo co r (y / 64)) y d = ((wdC wo co r (y / 64)) ^^^ (18446744073709551615#64)) &&& ((18446744073709551615#64) <<< ((y % 64).toNat)) := (by subst cd; rfl); rw [i1]; exact nx_skip i0.1 (hf.trans (lcm_0.mp cb))) (by omega)
          · have hf : fdC (wdC wo co r (y / 64)) y d = ((wdC wo co r (y / 64)) ^^^ (18446744073709551615#64)) &&& ((18446744073709551615#64) <<< ((y % 64).toNat)) := by subst cd; rfl
            have hh := nx_hit (wo := wo) (co := co) (r := r) (y := y) (d := d) i0.1 (fun h => cb (lcm_0.mpr (by rw [← hf]; exact h)))
            rw [hf] at hh
            refine z_lload C dX2_nextOf_59 0 rfl ?_
            refine z_lload C dX2_nextOf_61 0 rfl ?_
            refine z_lneg C dX2_nextOf_63 ?_
            refine z_land C dX2_nextOf_64 ?_
            refine z_lconst C dX2_nextOf_65 ?_
            refine z_lsub2 C dX2_nextOf_66 ?_
            refine z_callS C (As := [vJ (((((wdC wo co r (y / 64)) ^^^ (18446744073709551615#64)) &&& ((18446744073709551615#64) <<< ((y % 64).toNat))) &&& (-(((wdC wo co r (y / 64)) ^^^ (18446744073709551615#64)) &&& ((18446744073709551615#64) <<< ((y % 64).toNat))))) - (1#64))]) (st := []) (c_J13_bitCount_95d88 l D cy tw a kd co mk al dz rd rw wo sa sz ps bt ou bi dm pl re cu (((((wdC wo co r (y / 64)) ^^^ (18446744073709551615#64)) &&& ((18446744073709551615#64) <<< ((y % 64).toNat))) &&& (-(((wdC wo co r (y / 64)) ^^^ (18446744073709551615#64)) &&& ((18446744073709551615#64) <<< ((y % 64).toNat))))) - (1#64))  ) gX2_nextOf_J13_bitCount_95d88 kn_J13_bitCount_95d88 ⟨rfl, rfl, Nat.le_of_ble_eq_true rfl, Nat.le_of_ble_eq_true rfl⟩ rfl (Nat.le_of_ble_eq_true rfl) ⟨Nat.le_of_ble_eq_true rfl, Nat.le_of_ble_eq_true rfl⟩ dX2_nextOf_67 (fun u3 hu3 => ?_)
            clear hu3; clear u3
            show V 0 0 (CW cy a kd co mk al dz rd rw wo sa sz ps bt ou bi dm pl re cu) [(7, vJ (((wdC wo co r (y / 64)) ^^^ (18446744073709551615#64)) &&& ((18446744073709551615#64) <<< ((y % 64).toNat)))), (5, vJ (wdC wo co r (y / 64))), (0, .ref (a 2)), (1, vI r), (2, vI x), (3, vI (b2i d)), (4, vI y)] [vI (bcF (((((wdC wo co r (y / 64)) ^^^ (18446744073709551615#64)) &&& ((18446744073709551615#64) <<< ((y % 64).toNat))) &&& (-(((wdC wo co r (y / 64)) ^^^ (18446744073709551615#64)) &&& ((18446744073709551615#64) <<< ((y % 64).toNat))))) - (1#64)))] 70
            refine z_istore C (lv' := [(9, vI (bcF (((((wdC wo co r (y / 64)) ^^^ (18446744073709551615#64)) &&& ((18446744073709551615#64) <<< ((y % 64).toNat))) &&& (-(((wdC wo co r (y / 64)) ^^^ (18446744073709551615#64)) &&& ((18446744073709551615#64) <<< ((y % 64).toNat))))) - (1#64)))), (7, vJ (((wdC wo co r (y / 64)) ^^^ (18446744073709551615#64)) &&& ((18446744073709551615#64) <<< ((y % 64).toNat)))), (5, vJ (wdC wo co r (y / 64))), (0, .ref (a 2)), (1, vI r), (2, vI x), (3, vI (b2i d)), (4, vI y)]) dX2_nextOf_70 (by decide) rfl ?_
            refine z_aload_n C dX2_nextOf_72 3 rfl ?_
            refine z_get C hinX2 (ci := 4) rfl 2 rfl 0 (by decide) k4 rfl (v := vI co) rfl dX2_nextOf_73 ?_
            refine z_iload C dX2_nextOf_76 7 rfl ?_
            refine z_bipush C (z := 64) dX2_nextOf_78 (by decide) ?_
            refine z_idiv C dX2_nextOf_80 (by omega) (by decide) ?_
            refine z_bipush C (z := 64) dX2_nextOf_81 (by decide) ?_
            refine z_imul C dX2_nextOf_83 ?_
            refine z_iload C dX2_nextOf_84 0 rfl ?_
            refine z_iadd C dX2_nextOf_86 ?_
            refine z_mmin C k6 k7 k2 k8 (Nat.le_of_ble_eq_true rfl) (Nat.le_of_ble_eq_true rfl) (Nat.le_of_ble_eq_true rfl) (Nat.le_of_ble_eq_true rfl) (x := co) (y := (((y / 64) * 64) + (bcF (((((wdC wo co r (y / 64)) ^^^ (18446744073709551615#64)) &&& ((18446744073709551615#64) <<< ((y % 64).toNat))) &&& (-(((wdC wo co r (y / 64)) ^^^ (18446744073709551615#64)) &&& ((18446744073709551615#64) <<< ((y % 64).toNat))))) - (1#64))))) (by omega) (by omega) dX2_nextOf_87 ?_
            refine z_iret (x := (if ((y / 64) * 64) + (bcF (((((wdC wo co r (y / 64)) ^^^ (18446744073709551615#64)) &&& ((18446744073709551615#64) <<< ((y % 64).toNat))) &&& (-(((wdC wo co r (y / 64)) ^^^ (18446744073709551615#64)) &&& ((18446744073709551615#64) <<< ((y % 64).toNat))))) - (1#64))) < co then ((y / 64) * 64) + (bcF (((((wdC wo co r (y / 64)) ^^^ (18446744073709551615#64)) &&& ((18446744073709551615#64) <<< ((y % 64).toNat))) &&& (-(((wdC wo co r (y / 64)) ^^^ (18446744073709551615#64)) &&& ((18446744073709551615#64) <<< ((y % 64).toNat))))) - (1#64))) else co)) C dX2_nextOf_90 () ?_ ?_ ?_ (by decide) (by decide)
            · rw [i1, hh.1]
            · exact trivial
            · exact rfl
        · refine z_lload C dX2_nextOf_32 0 rfl ?_
          refine z_goto C (tgt := 43) dX2_nextOf_34 (by decide) ?_
          refine z_ldc2 C (w := 18446744073709551615#64) k5 dX2_nextOf_43 ?_
          refine z_iload C dX2_nextOf_46 5 rfl ?_
          refine z_lshl C (y := y) ((y % 64).toNat) (by omega) (rfl) dX2_nextOf_48 ?_
          refine z_land C dX2_nextOf_49 ?_
          refine z_lstore C (lv' := [(7, vJ ((wdC wo co r (y / 64)) &&& ((18446744073709551615#64) <<< ((y % 64).toNat)))), (5, vJ (wdC wo co r (y / 64))), (0, .ref (a 2)), (1, vI r), (2, vI x), (3, vI (b2i d)), (4, vI y)]) dX2_nextOf_50 (by decide) rfl ?_
          refine z_lload C dX2_nextOf_52 0 rfl ?_
          refine z_lconst C dX2_nextOf_54 ?_
          refine z_lcmp C dX2_nextOf_55 ?_
          refine z_if_eq C (by exact lcm_rg _ _) (tgt := 91) dX2_nextOf_56 (by decide) (fun cb => ?_) (fun cb => ?_)
          · refine z_iload C dX2_nextOf_91 6 rfl ?_
            refine z_bipush C (z := 63) dX2_nextOf_93 (by decide) ?_
            refine z_ior63 C (by omega) dX2_nextOf_95 ?_
            refine z_iconst C (z := 1) dX2_nextOf_96 ?_
            refine z_iadd C dX2_nextOf_97 ?_
            refine z_istore C (lv' := [(4, vI ((y / 64 * 64 + 63) + 1)), (7, vJ ((wdC wo co r (y / 64)) &&& ((18446744073709551615#64) <<< ((y % 64).toNat)))), (5, vJ (wdC wo co r (y / 64))), (0, .ref (a 2)), (1, vI r), (2, vI x), (3, vI (b2i d))]) dX2_nextOf_98 (by decide) rfl ?_
            refine z_goto C (tgt := 7) dX2_nextOf_100 (by decide) ?_
            refine z_lsub C [3, 4, 5, 6, 0] rfl ?_
            exact ih ((y / 64 * 64 + 63) + 1) (by omega) (by have hf : fdC (wdC wo co r (y / 64)) y d = (wdC wo co r (y / 64)) &&& ((18446744073709551615#64) <<< ((y % 64).toNat)) := (by subst cd; rfl); rw [i1]; exact nx_skip i0.1 (hf.trans (lcm_0.mp cb))) (by omega)
          · have hf : fdC (wdC wo co r (y / 64)) y d = (wdC wo co r (y / 64)) &&& ((18446744073709551615#64) <<< ((y % 64).toNat)) := by subst cd; rfl
            have hh := nx_hit (wo := wo) (co := co) (r := r) (y := y) (d := d) i0.1 (fun h => cb (lcm_0.mpr (by rw [← hf]; exact h)))
            rw [hf] at hh
            refine z_lload C dX2_nextOf_59 0 rfl ?_
            refine z_lload C dX2_nextOf_61 0 rfl ?_
            refine z_lneg C dX2_nextOf_63 ?_
            refine z_land C dX2_nextOf_64 ?_
            refine z_lconst C dX2_nextOf_65 ?_
            refine z_lsub2 C dX2_nextOf_66 ?_
            refine z_callS C (As := [vJ ((((wdC wo co r (y / 64)) &&& ((18446744073709551615#64) <<< ((y % 64).toNat))) &&& (-((wdC wo co r (y / 64)) &&& ((18446744073709551615#64) <<< ((y % 64).toNat))))) - (1#64))]) (st := []) (c_J13_bitCount_95d88 l D cy tw a kd co mk al dz rd rw wo sa sz ps bt ou bi dm pl re cu ((((wdC wo co r (y / 64)) &&& ((18446744073709551615#64) <<< ((y % 64).toNat))) &&& (-((wdC wo co r (y / 64)) &&& ((18446744073709551615#64) <<< ((y % 64).toNat))))) - (1#64))  ) gX2_nextOf_J13_bitCount_95d88 kn_J13_bitCount_95d88 ⟨rfl, rfl, Nat.le_of_ble_eq_true rfl, Nat.le_of_ble_eq_true rfl⟩ rfl (Nat.le_of_ble_eq_true rfl) ⟨Nat.le_of_ble_eq_true rfl, Nat.le_of_ble_eq_true rfl⟩ dX2_nextOf_67 (fun u4 hu4 => ?_)
            clear hu4; clear u4
            show V 0 0 (CW cy a kd co mk al dz rd rw wo sa sz ps bt ou bi dm pl re cu) [(7, vJ ((wdC wo co r (y / 64)) &&& ((18446744073709551615#64) <<< ((y % 64).toNat)))), (5, vJ (wdC wo co r (y / 64))), (0, .ref (a 2)), (1, vI r), (2, vI x), (3, vI (b2i d)), (4, vI y)] [vI (bcF ((((wdC wo co r (y / 64)) &&& ((18446744073709551615#64) <<< ((y % 64).toNat))) &&& (-((wdC wo co r (y / 64)) &&& ((18446744073709551615#64) <<< ((y % 64).toNat))))) - (1#64)))] 70
            refine z_istore C (lv' := [(9, vI (bcF ((((wdC wo co r (y / 64)) &&& ((18446744073709551615#64) <<< ((y % 64).toNat))) &&& (-((wdC wo co r (y / 64)) &&& ((18446744073709551615#64) <<< ((y % 64).toNat))))) - (1#64)))), (7, vJ ((wdC wo co r (y / 64)) &&& ((18446744073709551615#64) <<< ((y % 64).toNat)))), (5, vJ (wdC wo co r (y / 64))), (0, .ref (a 2)), (1, vI r), (2, vI x), (3, vI (b2i d)), (4, vI y)]) dX2_nextOf_70 (by decide) rfl ?_
            refine z_aload_n C dX2_nextOf_72 3 rfl ?_
            refine z_get C hinX2 (ci := 4) rfl 2 rfl 0 (by decide) k4 rfl (v := vI co) rfl dX2_nextOf_73 ?_
            refine z_iload C dX2_nextOf_76 7 rfl ?_
            refine z_bipush C (z := 64) dX2_nextOf_78 (by decide) ?_
            refine z_idiv C dX2_nextOf_80 (by omega) (by decide) ?_
            refine z_bipush C (z := 64) dX2_nextOf_81 (by decide) ?_
            refine z_imul C dX2_nextOf_83 ?_
            refine z_iload C dX2_nextOf_84 0 rfl ?_
            refine z_iadd C dX2_nextOf_86 ?_
            refine z_mmin C k6 k7 k2 k8 (Nat.le_of_ble_eq_true rfl) (Nat.le_of_ble_eq_true rfl) (Nat.le_of_ble_eq_true rfl) (Nat.le_of_ble_eq_true rfl) (x := co) (y := (((y / 64) * 64) + (bcF ((((wdC wo co r (y / 64)) &&& ((18446744073709551615#64) <<< ((y % 64).toNat))) &&& (-((wdC wo co r (y / 64)) &&& ((18446744073709551615#64) <<< ((y % 64).toNat))))) - (1#64))))) (by omega) (by omega) dX2_nextOf_87 ?_
            refine z_iret (x := (if ((y / 64) * 64) + (bcF ((((wdC wo co r (y / 64)) &&& ((18446744073709551615#64) <<< ((y % 64).toNat))) &&& (-((wdC wo co r (y / 64)) &&& ((18446744073709551615#64) <<< ((y % 64).toNat))))) - (1#64))) < co then ((y / 64) * 64) + (bcF ((((wdC wo co r (y / 64)) &&& ((18446744073709551615#64) <<< ((y % 64).toNat))) &&& (-((wdC wo co r (y / 64)) &&& ((18446744073709551615#64) <<< ((y % 64).toNat))))) - (1#64))) else co)) C dX2_nextOf_90 () ?_ ?_ ?_ (by decide) (by decide)
            · rw [i1, hh.1]
            · exact trivial
            · exact rfl
  refine z_lsub C [1, 2, 3, 4, 0] rfl ?_
  exact J7 _ (if 0 < x then x else 0) (by split <;> omega) (by rw [show (if 0 < x then x else 0) = x by split <;> omega]) (Nat.lt_succ_self _)
theorem kn_X2_changeTo : zKn yX2_changeTo wsX2_changeTo cX2_changeTo 5 (some .int) 3 := ⟨⟨_, rfl⟩, by decide +kernel, by decide +kernel, by decide +kernel⟩
set_option maxHeartbeats 400000 in
set_option maxRecDepth 100000 in
theorem c_X2_changeTo (l : Launch) (D : va_G) (cy : Nat → ClassId) (tw : Nat → Nat) (a : Nat → Nat) (kd : Int) (co : Int) (mk : Bool) (al : Bool) (dz : Bool) (rd : Bool) (rw : Int) (wo : Nat → BitVec 64) (sa : Nat → Int) (sz : Int) (ps : Int) (bt : Nat → Int) (ou : Nat → Int) (bi : Int) (dm : Int) (pl : Bool) (re : Int) (cu : Bool) (r : Int) (x : Int) (d : Bool)  (hco : 1 ≤ co ∧ co ≤ 700) (hr : -50 ≤ r ∧ r ≤ 50) (hx : 0 ≤ x ∧ x ≤ 900) : zMet l yX2_changeTo wsX2_changeTo { frames := 3, cells := 0, slots := 0, locals := 75 } D (zT cy) tw (CW cy a kd co mk al dz rd rw wo sa sz ps bt ou bi dm pl re cu) [.ref (a 2), vI r, vI x, vI (b2i d)] 0 0 (S := Unit) (fun _ => some (vI (chC (px wo co r) co x d))) (fun _ => CW cy a kd co mk al dz rd rw wo sa sz ps bt ou bi dm pl re cu) (fun _ => True) := by
  refine z_met (cc := cX2_changeTo) (nL := 5) (ret := some .int) (by decide +kernel) rfl (Nat.le_of_ble_eq_true rfl) (lv := [(0, .ref (a 2)), (1, vI r), (2, vI x), (3, vI (b2i d))]) rfl ?_
  intro V p_ e_ s_ m_ args_ below_ meth_ c_ A_ C hmn
  refine z_aload_n C dX2_changeTo_0 0 rfl ?_
  refine z_iload_n C dX2_changeTo_1 1 rfl ?_
  refine z_iload_n C dX2_changeTo_2 2 rfl ?_
  refine z_iconst C (z := 1) dX2_changeTo_3 ?_
  refine z_isub C dX2_changeTo_4 ?_
  refine z_callV C (As := [vI r, vI (x - 1)]) (st := []) (c_X2_isDark l D cy tw a kd co mk al dz rd rw wo sa sz ps bt ou bi dm pl re cu r (x - 1)  (by omega) (by omega) (by omega)) gX2_changeTo_X2_isDark kn_X2_isDark rfl ⟨rfl, rfl, Nat.le_of_ble_eq_true rfl, Nat.le_of_ble_eq_true rfl⟩ 2 rfl (ci := 4) rfl rfl (Nat.le_of_ble_eq_true rfl) ⟨Nat.le_of_ble_eq_true rfl, Nat.le_of_ble_eq_true rfl⟩ dX2_changeTo_5 (fun u1 hu1 => ?_)
  clear hu1; clear u1
  show V 0 0 (CW cy a kd co mk al dz rd rw wo sa sz ps bt ou bi dm pl re cu) [(0, .ref (a 2)), (1, vI r), (2, vI x), (3, vI (b2i d))] [vI (b2i (px wo co r (x - 1)))] 8
  refine z_iload_n C dX2_changeTo_8 3 rfl ?_
  refine z_eqb C dX2_changeTo_9 dX2_changeTo_12 dX2_changeTo_13 dX2_changeTo_16 ?_
  refine z_istore C (lv' := [(4, vI (b2i ((px wo co r (x - 1)) == d))), (0, .ref (a 2)), (1, vI r), (2, vI x), (3, vI (b2i d))]) dX2_changeTo_17 (by decide) rfl ?_
  refine z_aload_n C dX2_changeTo_19 1 rfl ?_
  refine z_iload_n C dX2_changeTo_20 2 rfl ?_
  refine z_iload C dX2_changeTo_21 0 rfl ?_
  refine z_ifz C (tgt := 44) dX2_changeTo_23 (by decide) (fun cb => ?_) (fun cb => ?_)
  · refine z_iload_n C dX2_changeTo_44 3 rfl ?_
    refine z_iload_n C dX2_changeTo_45 4 rfl ?_
    refine z_callV C (As := [vI r, vI x, vI (b2i d)]) (st := []) (c_X2_nextOf l D cy tw a kd co mk al dz rd rw wo sa sz ps bt ou bi dm pl re cu r x d  (by omega) (by omega) (by omega)) gX2_changeTo_X2_nextOf kn_X2_nextOf rfl ⟨rfl, rfl, Nat.le_of_ble_eq_true rfl, Nat.le_of_ble_eq_true rfl⟩ 2 rfl (ci := 4) rfl rfl (Nat.le_of_ble_eq_true rfl) ⟨Nat.le_of_ble_eq_true rfl, Nat.le_of_ble_eq_true rfl⟩ dX2_changeTo_46 (fun u2 hu2 => ?_)
    clear hu2; clear u2
    show V 0 0 (CW cy a kd co mk al dz rd rw wo sa sz ps bt ou bi dm pl re cu) [(4, vI (b2i ((px wo co r (x - 1)) == d))), (0, .ref (a 2)), (1, vI r), (2, vI x), (3, vI (b2i d))] [vI (nxt (px wo co r) co x d)] 49
    refine z_iret (x := (nxt (px wo co r) co x d)) C dX2_changeTo_49 () ?_ ?_ ?_ (by decide) (by decide)
    · rw [chC, cb]; rfl
    · exact trivial
    · exact rfl
  · refine z_aload_n C dX2_changeTo_26 1 rfl ?_
    refine z_iload_n C dX2_changeTo_27 2 rfl ?_
    refine z_iload_n C dX2_changeTo_28 3 rfl ?_
    refine z_iload_n C dX2_changeTo_29 4 rfl ?_
    refine z_not C dX2_changeTo_30 dX2_changeTo_33 dX2_changeTo_34 dX2_changeTo_37 ?_
    refine z_callV C (As := [vI r, vI x, vI (b2i (!d))]) (st := [vI r, .ref (a 2)]) (c_X2_nextOf l D cy tw a kd co mk al dz rd rw wo sa sz ps bt ou bi dm pl re cu r x (!d)  (by omega) (by omega) (by omega)) gX2_changeTo_X2_nextOf kn_X2_nextOf rfl ⟨rfl, rfl, Nat.le_of_ble_eq_true rfl, Nat.le_of_ble_eq_true rfl⟩ 2 rfl (ci := 4) rfl rfl (Nat.le_of_ble_eq_true rfl) ⟨Nat.le_of_ble_eq_true rfl, Nat.le_of_ble_eq_true rfl⟩ dX2_changeTo_38 (fun u3 hu3 => ?_)
    clear hu3; clear u3
    show V 0 0 (CW cy a kd co mk al dz rd rw wo sa sz ps bt ou bi dm pl re cu) [(4, vI (b2i ((px wo co r (x - 1)) == d))), (0, .ref (a 2)), (1, vI r), (2, vI x), (3, vI (b2i d))] [vI (nxt (px wo co r) co x (!d)), vI r, .ref (a 2)] 41
    have hh := nxt_rg (px wo co r) co x (!d)
    have hlo := nxt_lo (px wo co r) co x (!d)
    refine z_goto C (tgt := 45) dX2_changeTo_41 (by decide) ?_
    refine z_iload_n C dX2_changeTo_45 4 rfl ?_
    refine z_callV C (As := [vI r, vI (nxt (px wo co r) co x (!d)), vI (b2i d)]) (st := []) (c_X2_nextOf l D cy tw a kd co mk al dz rd rw wo sa sz ps bt ou bi dm pl re cu r (nxt (px wo co r) co x (!d)) d  (by omega) (by omega) (by omega)) gX2_changeTo_X2_nextOf kn_X2_nextOf rfl ⟨rfl, rfl, Nat.le_of_ble_eq_true rfl, Nat.le_of_ble_eq_true rfl⟩ 2 rfl (ci := 4) rfl rfl (Nat.le_of_ble_eq_true rfl) ⟨Nat.le_of_ble_eq_true rfl, Nat.le_of_ble_eq_true rfl⟩ dX2_changeTo_46 (fun u4 hu4 => ?_)
    clear hu4; clear u4
    show V 0 0 (CW cy a kd co mk al dz rd rw wo sa sz ps bt ou bi dm pl re cu) [(4, vI (b2i ((px wo co r (x - 1)) == d))), (0, .ref (a 2)), (1, vI r), (2, vI x), (3, vI (b2i d))] [vI (nxt (px wo co r) co (nxt (px wo co r) co x (!d)) d)] 49
    refine z_iret (x := (nxt (px wo co r) co (nxt (px wo co r) co x (!d)) d)) C dX2_changeTo_49 () ?_ ?_ ?_ (by decide) (by decide)
    · rw [chC, cb]; rfl
    · exact trivial
    · exact rfl
theorem kn_X2_countRuns : zKn yX2_countRuns wsX2_countRuns cX2_countRuns 5 (some .int) 1 := ⟨⟨_, rfl⟩, by decide +kernel, by decide +kernel, by decide +kernel⟩
set_option maxHeartbeats 400000 in
set_option maxRecDepth 100000 in
theorem c_X2_countRuns (l : Launch) (D : va_G) (cy : Nat → ClassId) (tw : Nat → Nat) (a : Nat → Nat) (kd : Int) (co : Int) (mk : Bool) (al : Bool) (dz : Bool) (rd : Bool) (rw : Int) (wo : Nat → BitVec 64) (sa : Nat → Int) (sz : Int) (ps : Int) (bt : Nat → Int) (ou : Nat → Int) (bi : Int) (dm : Int) (pl : Bool) (re : Int) (cu : Bool) (r : Int)  (hco : 1 ≤ co ∧ co ≤ 700) (hr : -50 ≤ r ∧ r ≤ 50) : zMet l yX2_countRuns wsX2_countRuns { frames := 3, cells := 0, slots := 0, locals := 75 } D (zT cy) tw (CW cy a kd co mk al dz rd rw wo sa sz ps bt ou bi dm pl re cu) [.ref (a 2), vI r] 0 0 (S := Unit) (fun _ => some (vI (crun (px wo co r) co (co + 1).toNat 0 false))) (fun _ => CW cy a kd co mk al dz rd rw wo sa sz ps bt ou bi dm pl re cu) (fun _ => True) := by
  refine z_met (cc := cX2_countRuns) (nL := 5) (ret := some .int) (by decide +kernel) rfl (Nat.le_of_ble_eq_true rfl) (lv := [(0, .ref (a 2)), (1, vI r)]) rfl ?_
  intro V p_ e_ s_ m_ args_ below_ meth_ c_ A_ C hmn
  have hinX2 : ∀ w ∈ u_ws RX2 TX2 5, w ∈ wsX2_countRuns := by decide +kernel
  have k0 : Cond.fieldLink RX2 15 "FaxFilter$Picture" "columns" "I" ∈ wsX2_countRuns := List.mem_of_getElem? (i := 1) rfl
  refine z_iconst C (z := 0) dX2_countRuns_0 ?_
  refine z_istore_n C (lv' := [(2, vI 0), (0, .ref (a 2)), (1, vI r)]) dX2_countRuns_1 rfl (by decide) rfl ?_
  refine z_iconst C (z := 0) dX2_countRuns_2 ?_
  refine z_istore_n C (lv' := [(3, vI 0), (2, vI 0), (0, .ref (a 2)), (1, vI r)]) dX2_countRuns_3 rfl (by decide) rfl ?_
  refine z_iconst C (z := 0) dX2_countRuns_4 ?_
  refine z_istore C (lv' := [(4, vI 0), (3, vI 0), (2, vI 0), (0, .ref (a 2)), (1, vI r)]) dX2_countRuns_5 (by decide) rfl ?_
  have J7 : ∀ (f : Nat) (n : Int) (d : Bool) (x : Int), 0 ≤ n ∧ n ≤ co + 1 → 0 ≤ x ∧ x ≤ co → crun (px wo co r) co (co + 1).toNat 0 false = n + crun (px wo co r) co (co + 1 - n).toNat x d → (co + 1 - n).toNat < f → V 0 0 (CW cy a kd co mk al dz rd rw wo sa sz ps bt ou bi dm pl re cu) [(0, .ref (a 2)), (1, vI r), (2, vI n), (3, vI (b2i d)), (4, vI x)] [] 7 := by
    intro f
    induction f with
    | zero => intro n d x i0 i1 i2 hf; exact absurd hf (Nat.not_lt_zero _)
    | succ f ih =>
      intro n d x i0 i1 i2 hf
      refine z_iload C dX2_countRuns_7 4 rfl ?_
      refine z_aload_n C dX2_countRuns_9 0 rfl ?_
      refine z_get C hinX2 (ci := 4) rfl 2 rfl 0 (by decide) k0 rfl (v := vI co) rfl dX2_countRuns_10 ?_
      refine z_icmp_ge C (by omega) (by omega) (tgt := 58) dX2_countRuns_13 (by decide) (fun c1 => ?_) (fun c1 => ?_)
      · refine z_iload_n C dX2_countRuns_58 2 rfl ?_
        refine z_iret (x := n) C dX2_countRuns_59 () ?_ ?_ ?_ (by decide) (by decide)
        · rw [i2, crun_ge _ (by omega), Int.add_zero]
        · exact trivial
        · exact rfl
      · refine z_iload_n C dX2_countRuns_16 2 rfl ?_
        refine z_aload_n C dX2_countRuns_17 0 rfl ?_
        refine z_get C hinX2 (ci := 4) rfl 2 rfl 0 (by decide) k0 rfl (v := vI co) rfl dX2_countRuns_18 ?_
        refine z_icmp_gt C (by omega) (by omega) (tgt := 58) dX2_countRuns_21 (by decide) (fun c2 => ?_) (fun c2 => ?_)
        · refine z_iload_n C dX2_countRuns_58 2 rfl ?_
          refine z_iret (x := n) C dX2_countRuns_59 () ?_ ?_ ?_ (by decide) (by decide)
          · rw [i2, show (co + 1 - n).toNat = 0 by omega, crun, Int.add_zero]
          · exact trivial
          · exact rfl
        · refine z_aload_n C dX2_countRuns_24 0 rfl ?_
          refine z_iload_n C dX2_countRuns_25 1 rfl ?_
          refine z_iload C dX2_countRuns_26 4 rfl ?_
          refine z_iload_n C dX2_countRuns_28 3 rfl ?_
          refine z_not C dX2_countRuns_29 dX2_countRuns_32 dX2_countRuns_33 dX2_countRuns_36 ?_
          refine z_callV C (As := [vI r, vI x, vI (b2i (!d))]) (st := []) (c_X2_nextOf l D cy tw a kd co mk al dz rd rw wo sa sz ps bt ou bi dm pl re cu r x (!d)  (by omega) (by omega) (by omega)) gX2_countRuns_X2_nextOf kn_X2_nextOf rfl ⟨rfl, rfl, Nat.le_of_ble_eq_true rfl, Nat.le_of_ble_eq_true rfl⟩ 2 rfl (ci := 4) rfl rfl (Nat.le_of_ble_eq_true rfl) ⟨Nat.le_of_ble_eq_true rfl, Nat.le_of_ble_eq_true rfl⟩ dX2_countRuns_37 (fun u3 hu3 => ?_)
          clear hu3; clear u3
          show V 0 0 (CW cy a kd co mk al dz rd rw wo sa sz ps bt ou bi dm pl re cu) [(0, .ref (a 2)), (1, vI r), (2, vI n), (3, vI (b2i d)), (4, vI x)] [vI (nxt (px wo co r) co x (!d))] 40
          refine z_istore C (lv' := [(4, vI (nxt (px wo co r) co x (!d))), (0, .ref (a 2)), (1, vI r), (2, vI n), (3, vI (b2i d))]) dX2_countRuns_40 (by decide) rfl ?_
          refine z_iload_n C dX2_countRuns_42 4 rfl ?_
          refine z_not C dX2_countRuns_43 dX2_countRuns_46 dX2_countRuns_47 dX2_countRuns_50 ?_
          refine z_istore_n C (lv' := [(3, vI (b2i (!d))), (4, vI (nxt (px wo co r) co x (!d))), (0, .ref (a 2)), (1, vI r), (2, vI n)]) dX2_countRuns_51 rfl (by decide) rfl ?_
          refine z_iinc C (lv' := [(2, vI (n + 1)), (3, vI (b2i (!d))), (4, vI (nxt (px wo co r) co x (!d))), (0, .ref (a 2)), (1, vI r)]) dX2_countRuns_52 4 rfl (by decide) rfl ?_
          refine z_goto C (tgt := 7) dX2_countRuns_55 (by decide) ?_
          refine z_lsub C [3, 4, 0, 1, 2] rfl ?_
          exact ih (n + 1) (!d) (nxt (px wo co r) co x (!d)) (by omega) (by have := nxt_rg (px wo co r) co x (!d); omega) (by rw [i2, show (co + 1 - n).toNat = (co + 1 - (n + 1)).toNat + 1 by omega, crun, if_pos (by omega)]; omega) (by omega)
  refine z_lsub C [3, 4, 2, 1, 0] rfl ?_
  exact J7 _ 0 false 0 (by omega) (by omega) (by simp) (Nat.lt_succ_self _)
theorem kn_X2_lengthOfRun : zKn yX2_lengthOfRun wsX2_lengthOfRun cX2_lengthOfRun 7 (some .int) 2 := ⟨⟨_, rfl⟩, by decide +kernel, by decide +kernel, by decide +kernel⟩
set_option maxHeartbeats 400000 in
set_option maxRecDepth 100000 in
theorem c_X2_lengthOfRun (l : Launch) (D : va_G) (cy : Nat → ClassId) (tw : Nat → Nat) (a : Nat → Nat) (kd : Int) (co : Int) (mk : Bool) (al : Bool) (dz : Bool) (rd : Bool) (rw : Int) (wo : Nat → BitVec 64) (sa : Nat → Int) (sz : Int) (ps : Int) (bt : Nat → Int) (ou : Nat → Int) (bi : Int) (dm : Int) (pl : Bool) (re : Int) (cu : Bool) (r : Int) (i : Int)  (hco : 1 ≤ co ∧ co ≤ 700) (hr : -50 ≤ r ∧ r ≤ 50) (hi : -2147483648 ≤ i ∧ i < 2147483648) : zMet l yX2_lengthOfRun wsX2_lengthOfRun { frames := 3, cells := 0, slots := 0, locals := 75 } D (zT cy) tw (CW cy a kd co mk al dz rd rw wo sa sz ps bt ou bi dm pl re cu) [.ref (a 2), vI r, vI i] 0 0 (S := Unit) (fun _ => some (vI (lrun (px wo co r) co i (co + 1).toNat 0 0 false))) (fun _ => CW cy a kd co mk al dz rd rw wo sa sz ps bt ou bi dm pl re cu) (fun _ => True) := by
  refine z_met (cc := cX2_lengthOfRun) (nL := 7) (ret := some .int) (by decide +kernel) rfl (Nat.le_of_ble_eq_true rfl) (lv := [(0, .ref (a 2)), (1, vI r), (2, vI i)]) rfl ?_
  intro V p_ e_ s_ m_ args_ below_ meth_ c_ A_ C hmn
  have hinX2 : ∀ w ∈ u_ws RX2 TX2 5, w ∈ wsX2_lengthOfRun := by decide +kernel
  have k0 : Cond.fieldLink RX2 15 "FaxFilter$Picture" "columns" "I" ∈ wsX2_lengthOfRun := List.mem_of_getElem? (i := 1) rfl
  refine z_iconst C (z := 0) dX2_lengthOfRun_0 ?_
  refine z_istore_n C (lv' := [(3, vI 0), (0, .ref (a 2)), (1, vI r), (2, vI i)]) dX2_lengthOfRun_1 rfl (by decide) rfl ?_
  refine z_iconst C (z := 0) dX2_lengthOfRun_2 ?_
  refine z_istore C (lv' := [(4, vI 0), (3, vI 0), (0, .ref (a 2)), (1, vI r), (2, vI i)]) dX2_lengthOfRun_3 (by decide) rfl ?_
  refine z_iconst C (z := 0) dX2_lengthOfRun_5 ?_
  refine z_istore C (lv' := [(5, vI 0), (4, vI 0), (3, vI 0), (0, .ref (a 2)), (1, vI r), (2, vI i)]) dX2_lengthOfRun_6 (by decide) rfl ?_
  have J8 : ∀ (f : Nat) (x : Int) (d : Bool) (n : Int), 0 ≤ n ∧ n ≤ co + 1 → 0 ≤ x ∧ x ≤ co → lrun (px wo co r) co i (co + 1).toNat 0 0 false = lrun (px wo co r) co i (co + 1 - n).toNat n x d → (co + 1 - n).toNat < f → V 0 0 (CW cy a kd co mk al dz rd rw wo sa sz ps bt ou bi dm pl re cu) [(0, .ref (a 2)), (1, vI r), (2, vI i), (3, vI x), (4, vI (b2i d)), (5, vI n)] [] 8 := by
    intro f
    induction f with
    | zero => intro x d n i0 i1 i2 hf; exact absurd hf (Nat.not_lt_zero _)
    | succ f ih =>
      intro x d n i0 i1 i2 hf
      refine z_iload_n C dX2_lengthOfRun_8 3 rfl ?_
      refine z_aload_n C dX2_lengthOfRun_9 0 rfl ?_
      refine z_get C hinX2 (ci := 4) rfl 2 rfl 0 (by decide) k0 rfl (v := vI co) rfl dX2_lengthOfRun_10 ?_
      refine z_icmp_ge C (by omega) (by omega) (tgt := 75) dX2_lengthOfRun_13 (by decide) (fun c1 => ?_) (fun c1 => ?_)
      · refine z_bipush C (z := (-2)) dX2_lengthOfRun_75 (by decide) ?_
        refine z_iret (x := (-2)) C dX2_lengthOfRun_77 () ?_ ?_ ?_ (by decide) (by decide)
        · rw [i2, lrun_ge _ (by omega)]
        · exact trivial
        · exact rfl
      · refine z_iload C dX2_lengthOfRun_16 5 rfl ?_
        refine z_aload_n C dX2_lengthOfRun_18 0 rfl ?_
        refine z_get C hinX2 (ci := 4) rfl 2 rfl 0 (by decide) k0 rfl (v := vI co) rfl dX2_lengthOfRun_19 ?_
        refine z_icmp_gt C (by omega) (by omega) (tgt := 75) dX2_lengthOfRun_22 (by decide) (fun c2 => ?_) (fun c2 => ?_)
        · refine z_bipush C (z := (-2)) dX2_lengthOfRun_75 (by decide) ?_
          refine z_iret (x := (-2)) C dX2_lengthOfRun_77 () ?_ ?_ ?_ (by decide) (by decide)
          · rw [i2, show (co + 1 - n).toNat = 0 by omega, lrun]
          · exact trivial
          · exact rfl
        · refine z_aload_n C dX2_lengthOfRun_25 0 rfl ?_
          refine z_iload_n C dX2_lengthOfRun_26 1 rfl ?_
          refine z_iload_n C dX2_lengthOfRun_27 3 rfl ?_
          refine z_iload C dX2_lengthOfRun_28 4 rfl ?_
          refine z_not C dX2_lengthOfRun_30 dX2_lengthOfRun_33 dX2_lengthOfRun_34 dX2_lengthOfRun_37 ?_
          refine z_callV C (As := [vI r, vI x, vI (b2i (!d))]) (st := []) (c_X2_nextOf l D cy tw a kd co mk al dz rd rw wo sa sz ps bt ou bi dm pl re cu r x (!d)  (by omega) (by omega) (by omega)) gX2_lengthOfRun_X2_nextOf kn_X2_nextOf rfl ⟨rfl, rfl, Nat.le_of_ble_eq_true rfl, Nat.le_of_ble_eq_true rfl⟩ 2 rfl (ci := 4) rfl rfl (Nat.le_of_ble_eq_true rfl) ⟨Nat.le_of_ble_eq_true rfl, Nat.le_of_ble_eq_true rfl⟩ dX2_lengthOfRun_38 (fun u3 hu3 => ?_)
          clear hu3; clear u3
          show V 0 0 (CW cy a kd co mk al dz rd rw wo sa sz ps bt ou bi dm pl re cu) [(0, .ref (a 2)), (1, vI r), (2, vI i), (3, vI x), (4, vI (b2i d)), (5, vI n)] [vI (nxt (px wo co r) co x (!d))] 41
          refine z_istore C (lv' := [(6, vI (nxt (px wo co r) co x (!d))), (0, .ref (a 2)), (1, vI r), (2, vI i), (3, vI x), (4, vI (b2i d)), (5, vI n)]) dX2_lengthOfRun_41 (by decide) rfl ?_
          refine z_iload C dX2_lengthOfRun_43 6 rfl ?_
          refine z_iload_n C dX2_lengthOfRun_45 3 rfl ?_
          refine z_icmp_ne C (by omega) (by omega) (tgt := 54) dX2_lengthOfRun_46 (by decide) (fun c4 => ?_) (fun c4 => ?_)
          · refine z_iload C dX2_lengthOfRun_54 0 rfl ?_
            refine z_istore_n C (lv' := [(3, vI (nxt (px wo co r) co x (!d))), (6, vI (nxt (px wo co r) co x (!d))), (0, .ref (a 2)), (1, vI r), (2, vI i), (4, vI (b2i d)), (5, vI n)]) dX2_lengthOfRun_56 rfl (by decide) rfl ?_
            refine z_iload C dX2_lengthOfRun_57 5 rfl ?_
            refine z_not C dX2_lengthOfRun_59 dX2_lengthOfRun_62 dX2_lengthOfRun_63 dX2_lengthOfRun_66 ?_
            refine z_istore C (lv' := [(4, vI (b2i (!d))), (3, vI (nxt (px wo co r) co x (!d))), (6, vI (nxt (px wo co r) co x (!d))), (0, .ref (a 2)), (1, vI r), (2, vI i), (5, vI n)]) dX2_lengthOfRun_67 (by decide) rfl ?_
            refine z_iinc C (lv' := [(5, vI (n + 1)), (4, vI (b2i (!d))), (3, vI (nxt (px wo co r) co x (!d))), (6, vI (nxt (px wo co r) co x (!d))), (0, .ref (a 2)), (1, vI r), (2, vI i)]) dX2_lengthOfRun_69 6 rfl (by decide) rfl ?_
            refine z_goto C (tgt := 8) dX2_lengthOfRun_72 (by decide) ?_
            refine z_lsub C [4, 5, 6, 2, 1, 0] rfl ?_
            exact ih (nxt (px wo co r) co x (!d)) (!d) (n + 1) (by omega) (by have := nxt_rg (px wo co r) co x (!d); omega) (by rw [i2, show (co + 1 - n).toNat = (co + 1 - (n + 1)).toNat + 1 by omega, lrun, if_pos (by omega), if_neg (by omega)]) (by omega)
          · refine z_iload C dX2_lengthOfRun_49 0 rfl ?_
            refine z_iload_n C dX2_lengthOfRun_51 4 rfl ?_
            refine z_isub C dX2_lengthOfRun_52 ?_
            refine z_iret (x := ((nxt (px wo co r) co x (!d)) - x)) C dX2_lengthOfRun_53 () ?_ ?_ ?_ (by decide) (by decide)
            · rw [i2, show (co + 1 - n).toNat = (co + 1 - (n + 1)).toNat + 1 by omega, lrun, if_pos (by omega), if_pos (by omega)]
            · exact trivial
            · exact rfl
  refine z_lsub C [3, 4, 5, 2, 1, 0] rfl ?_
  exact J8 _ 0 false 0 (by omega) (by omega) (by simp) (Nat.lt_succ_self _)
end
section
/-! pure: how rows are written -/
def bitsL (v : Int) : Nat → List Bool
  | 0 => []
  | n + 1 => decide (v / 2 ^ n % 2 = 1) :: bitsL v n
theorem bitsL_len (v : Int) : ∀ n, (bitsL v n).length = n
  | 0 => rfl
  | n + 1 => by rw [bitsL, List.length_cons, bitsL_len v n]
def byL (L : List Bool) (i : Nat) : Int := b2i (L.getD (8 * i) false) * 128 + b2i (L.getD (8 * i + 1) false) * 64 + b2i (L.getD (8 * i + 2) false) * 32 + b2i (L.getD (8 * i + 3) false) * 16 + b2i (L.getD (8 * i + 4) false) * 8 + b2i (L.getD (8 * i + 5) false) * 4 + b2i (L.getD (8 * i + 6) false) * 2 + b2i (L.getD (8 * i + 7) false)
theorem byL_rg (L : List Bool) (i : Nat) : 0 ≤ byL L i ∧ byL L i < 256 := by
  have h0 := b2i_01 (L.getD (8 * i) false)
  have h1 := b2i_01 (L.getD (8 * i + 1) false)
  have h2 := b2i_01 (L.getD (8 * i + 2) false)
  have h3 := b2i_01 (L.getD (8 * i + 3) false)
  have h4 := b2i_01 (L.getD (8 * i + 4) false)
  have h5 := b2i_01 (L.getD (8 * i + 5) false)
  have h6 := b2i_01 (L.getD (8 * i + 6) false)
  have h7 := b2i_01 (L.getD (8 * i + 7) false)
  unfold byL
  omega
theorem getD_snoc (L : List Bool) (b : Bool) (k : Nat) : (L ++ [b]).getD k false = if k = L.length then b else L.getD k false := by
  rcases Nat.lt_trichotomy k L.length with h | h | h
  · rw [if_neg (by omega), List.getD_eq_getElem?_getD, List.getElem?_append_left h, List.getD_eq_getElem?_getD]
  · subst h
    rw [if_pos rfl, List.getD_eq_getElem?_getD, List.getElem?_append_right (by omega)]
    simp
  · rw [if_neg (by omega), List.getD_eq_getElem?_getD, List.getD_eq_getElem?_getD, List.getElem?_eq_none (by simp; omega), List.getElem?_eq_none (by omega)]
theorem getD_out (L : List Bool) {k : Nat} (h : L.length ≤ k) : L.getD k false = false := by
  rw [List.getD_eq_getElem?_getD, List.getElem?_eq_none h]; rfl
theorem byL_lo (L : List Bool) (b : Bool) {i : Nat} (h : 8 * i + 7 < L.length) : byL (L ++ [b]) i = byL L i := by
  unfold byL
  simp only [getD_snoc]
  rw [if_neg (by omega), if_neg (by omega), if_neg (by omega), if_neg (by omega), if_neg (by omega), if_neg (by omega), if_neg (by omega), if_neg (by omega)]
theorem byL_at (L : List Bool) (b : Bool) {i r : Nat} (h : L.length = 8 * i + r) (hr : r < 8) : byL (L ++ [b]) i = byL L i + b2i b * 2 ^ (7 - r) ∧ (r = 0 → byL L i = 0) ∧ ∃ a : Int, byL L i = a * 2 ^ (8 - r) ∧ byL L i + 2 ^ (7 - r) < 256 := by
  have o : ∀ j, r ≤ j → L.getD (8 * i + j) false = false := fun j hj => getD_out L (by omega)
  have h0 := b2i_01 (L.getD (8 * i) false)
  have h1 := b2i_01 (L.getD (8 * i + 1) false)
  have h2 := b2i_01 (L.getD (8 * i + 2) false)
  have h3 := b2i_01 (L.getD (8 * i + 3) false)
  have h4 := b2i_01 (L.getD (8 * i + 4) false)
  have h5 := b2i_01 (L.getD (8 * i + 5) false)
  have h6 := b2i_01 (L.getD (8 * i + 6) false)
  have o0 : r ≤ 0 → b2i (L.getD (8 * i) false) = 0 := fun hj => by rw [show 8 * i = 8 * i + 0 by rfl, o 0 hj]; rfl
  have o1 : r ≤ 1 → b2i (L.getD (8 * i + 1) false) = 0 := fun hj => by rw [o 1 hj]; rfl
  have o2 : r ≤ 2 → b2i (L.getD (8 * i + 2) false) = 0 := fun hj => by rw [o 2 hj]; rfl
  have o3 : r ≤ 3 → b2i (L.getD (8 * i + 3) false) = 0 := fun hj => by rw [o 3 hj]; rfl
  have o4 : r ≤ 4 → b2i (L.getD (8 * i + 4) false) = 0 := fun hj => by rw [o 4 hj]; rfl
  have o5 : r ≤ 5 → b2i (L.getD (8 * i + 5) false) = 0 := fun hj => by rw [o 5 hj]; rfl
  have o6 : r ≤ 6 → b2i (L.getD (8 * i + 6) false) = 0 := fun hj => by rw [o 6 hj]; rfl
  have o7 : r ≤ 7 → b2i (L.getD (8 * i + 7) false) = 0 := fun hj => by rw [o 7 hj]; rfl
  have e : ∀ j, b2i (if 8 * i + j = L.length then b else L.getD (8 * i + j) false) = if j = r then b2i b else b2i (L.getD (8 * i + j) false) := fun j => by
    by_cases hj : j = r
    · rw [if_pos (by omega), if_pos hj]
    · rw [if_neg (by omega), if_neg hj]
  unfold byL
  simp only [getD_snoc]
  have e0 : b2i (if 8 * i = L.length then b else L.getD (8 * i) false) = if 0 = r then b2i b else b2i (L.getD (8 * i) false) := e 0
  rw [e0, e 1, e 2, e 3, e 4, e 5, e 6, e 7]
  generalize b2i (L.getD (8 * i) false) = x0 at *
  generalize b2i (L.getD (8 * i + 1) false) = x1 at *
  generalize b2i (L.getD (8 * i + 2) false) = x2 at *
  generalize b2i (L.getD (8 * i + 3) false) = x3 at *
  generalize b2i (L.getD (8 * i + 4) false) = x4 at *
  generalize b2i (L.getD (8 * i + 5) false) = x5 at *
  generalize b2i (L.getD (8 * i + 6) false) = x6 at *
  generalize b2i (L.getD (8 * i + 7) false) = x7 at *
  obtain ⟨q, hq⟩ : ∃ q : Nat, q = r := ⟨_, rfl⟩
  have hc : r = 0 ∨ r = 1 ∨ r = 2 ∨ r = 3 ∨ r = 4 ∨ r = 5 ∨ r = 6 ∨ r = 7 := by omega
  rcases hc with rfl | rfl | rfl | rfl | rfl | rfl | rfl | rfl
  · refine ⟨?_, fun _ => ?_, 0, ?_, ?_⟩ <;> first | omega | (simp; omega) | (simp; done)
  · refine ⟨?_, fun h => ?_, x0, ?_, ?_⟩ <;> first | omega | (simp; omega) | (simp; done)
  · refine ⟨?_, fun h => ?_, x0 * 2 + x1, ?_, ?_⟩ <;> first | omega | (simp; omega) | (simp; done)
  · refine ⟨?_, fun h => ?_, x0 * 4 + x1 * 2 + x2, ?_, ?_⟩ <;> first | omega | (simp; omega) | (simp; done)
  · refine ⟨?_, fun h => ?_, x0 * 8 + x1 * 4 + x2 * 2 + x3, ?_, ?_⟩ <;> first | omega | (simp; omega) | (simp; done)
  · refine ⟨?_, fun h => ?_, x0 * 16 + x1 * 8 + x2 * 4 + x3 * 2 + x4, ?_, ?_⟩ <;> first | omega | (simp; omega) | (simp; done)
  · refine ⟨?_, fun h => ?_, x0 * 32 + x1 * 16 + x2 * 8 + x3 * 4 + x4 * 2 + x5, ?_, ?_⟩ <;> first | omega | (simp; omega) | (simp; done)
  · refine ⟨?_, fun h => ?_, x0 * 64 + x1 * 32 + x2 * 16 + x3 * 8 + x4 * 4 + x5 * 2 + x6, ?_, ?_⟩ <;> first | omega | (simp; omega) | (simp; done)
/-- the bytes hold these bits -/
def OR (ou : Nat → Int) (L : List Bool) : Prop := ∀ i : Nat, 8 * i < L.length → ou i % 256 = byL L i
theorem OR_nil (ou : Nat → Int) : OR ou [] := fun i h => absurd h (Nat.not_lt_zero _)
theorem OR_step {ou : Nat → Int} {L : List Bool} (h : OR ou L) {x : Int} (hx : x = 0 ∨ x = 1) : OR (va_up ou ((L.length : Int) / 8).toNat (sb ((if (L.length : Int) % 8 = 0 then 0 else sb (ou ((L.length : Int) / 8).toNat)) + x * 2 ^ (7 - (L.length : Int) % 8).toNat))) (L ++ [decide (x = 1)]) := by
  intro i hi
  rw [List.length_append] at hi
  simp only [List.length_cons, List.length_nil] at hi
  by_cases hq : i = L.length / 8
  · obtain ⟨r, hr⟩ : ∃ r, r = L.length % 8 := ⟨_, rfl⟩
    have hl : L.length = 8 * i + r := by omega
    obtain ⟨b1, b2, a, b3, b4⟩ := byL_at L (decide (x = 1)) hl (by omega)
    rw [show ((L.length : Int) / 8).toNat = i by omega, va_up, if_pos rfl, sb_mod, b1, show (7 - (L.length : Int) % 8).toNat = 7 - r by omega]
    have hb : b2i (decide (x = 1)) = x := by rcases hx with rfl | rfl <;> rfl
    rw [hb]
    have hrg := byL_rg L i
    have hp : (1 : Int) ≤ 2 ^ (7 - r) := by
      rw [show (2 : Int) ^ (7 - r) = ((2 ^ (7 - r) : Nat) : Int) by rw [Int.natCast_pow]; rfl]
      have : 1 ≤ 2 ^ (7 - r) := Nat.one_le_two_pow
      omega
    by_cases h0 : r = 0
    · have hz := b2 h0
      rw [if_pos (by omega)]
      rcases hx with rfl | rfl <;> omega
    · rw [if_neg (by omega)]
      have ho := h i (by omega)
      have hs := sb_mod (ou i)
      rcases hx with rfl | rfl <;> omega
  · rw [va_up, if_neg (by omega), byL_lo _ _ (by omega)]
    exact h i (by omega)
theorem OR_send : ∀ (n : Nat) {ou : Nat → Int} {L : List Bool} (v : Int), OR ou L → OR (sendA ou (L.length : Int) v n) (L ++ bitsL v n)
  | 0, ou, L, v, h => by rw [sendA, bitsL, List.append_nil]; exact h
  | n + 1, ou, L, v, h => by
    have h1 := OR_step h (x := v / 2 ^ n % 2) (by omega)
    have h2 := OR_send n v h1
    rw [sendA, bitsL, show L ++ decide (v / 2 ^ n % 2 = 1) :: bitsL v n = (L ++ [decide (v / 2 ^ n % 2 = 1)]) ++ bitsL v n by simp]
    rw [List.length_append] at h2
    simp only [List.length_cons, List.length_nil, Int.natCast_add] at h2
    exact h2
theorem OR_clean {ou : Nat → Int} {L : List Bool} (h : OR ou L) : clean ou (L.length : Int) := by
  by_cases h0 : (L.length : Int) % 8 = 0
  · exact Or.inl h0
  · right
    obtain ⟨r, hr⟩ : ∃ r, r = L.length % 8 := ⟨_, rfl⟩
    obtain ⟨i, hi⟩ : ∃ i, i = L.length / 8 := ⟨_, rfl⟩
    obtain ⟨b1, b2, a, b3, b4⟩ := byL_at L true (i := i) (r := r) (by omega) (by omega)
    have ho := h i (by omega)
    rw [show ((L.length : Int) / 8).toNat = i by omega, show (8 - (L.length : Int) % 8).toNat = 8 - r by omega]
    obtain ⟨q, hq⟩ : ∃ q : Int, (256 : Int) = q * 2 ^ (8 - r) := ⟨2 ^ r, by
      rw [← Int.pow_add, show r + (8 - r) = 8 by omega]; rfl⟩
    refine ⟨a - (if byL L i < 128 then 0 else 1) * q, ?_⟩
    rw [Int.sub_mul, Int.mul_assoc, ← hq, ← b3]
    have hrg := byL_rg L i
    have hs := sb_mod (ou i)
    have hs2 := sb_rg (ou i)
    split <;> omega
theorem zMet_mono {l : Launch} {y : MethodName} {wsY : List Cond} {rm : Room} {D : va_G} {tys : List (ClassId × FieldType)} {tw : Nat → Nat} {W0 : va_W} {av : List Value} {mc ms : Nat} {S S' : Type} {rv : S → Option Value} {wf : S → va_W} {post : S → Prop} {rv' : S' → Option Value} {wf' : S' → va_W} {post' : S' → Prop} (h : zMet l y wsY rm D tys tw W0 av mc ms rv wf post) (g : S → S') (h1 : ∀ u, post u → rv' (g u) = rv u) (h2 : ∀ u, post u → wf' (g u) = wf u) (h3 : ∀ u, post u → post' (g u)) : zMet l y wsY rm D tys tw W0 av mc ms rv' wf' post' := by
  intro sz p e ha hc hk s m args below hf happ hP hK
  obtain ⟨n, o, q1, q2, q3, ⟨⟨u, z1, z2, z3, z4, z5⟩, z6⟩, q5⟩ := h sz p e ha hc hk s m args below hf happ hP hK
  exact ⟨n, o, q1, q2, q3, ⟨⟨g u, by rw [h1 u z2]; exact z1, h3 u z2, by rw [h2 u z2]; exact z3, z4, by rw [h2 u z2]; exact z5⟩, z6⟩, q5⟩
end
section
theorem dX4_init_0 : decode cX4_init 0 = .ok (.aload_n 0, 1) := by decide +kernel
theorem dX4_init_1 : decode cX4_init 1 = .ok (.invokespecial 3, 3) := by decide +kernel
theorem dX4_init_4 : decode cX4_init 4 = .ok (.aload_n 0, 1) := by decide +kernel
theorem dX4_init_5 : decode cX4_init 5 = .ok (.aload_n 1, 1) := by decide +kernel
theorem dX4_init_6 : decode cX4_init 6 = .ok (.putfield 9, 3) := by decide +kernel
theorem dX4_init_9 : decode cX4_init 9 = .ok (.aload_n 0, 1) := by decide +kernel
theorem dX4_init_10 : decode cX4_init 10 = .ok (.aload_n 2, 1) := by decide +kernel
theorem dX4_init_11 : decode cX4_init 11 = .ok (.putfield 15, 3) := by decide +kernel
theorem dX4_init_14 : decode cX4_init 14 = .ok (.aload_n 0, 1) := by decide +kernel
theorem dX4_init_15 : decode cX4_init 15 = .ok (.aload_n 3, 1) := by decide +kernel
theorem dX4_init_16 : decode cX4_init 16 = .ok (.putfield 19, 3) := by decide +kernel
theorem dX4_init_19 : decode cX4_init 19 = .ok (.aload_n 0, 1) := by decide +kernel
theorem dX4_init_20 : decode cX4_init 20 = .ok (.aload 4, 2) := by decide +kernel
theorem dX4_init_22 : decode cX4_init 22 = .ok (.putfield 23, 3) := by decide +kernel
theorem dX4_init_25 : decode cX4_init 25 = .ok (.aload_n 0, 1) := by decide +kernel
theorem dX4_init_26 : decode cX4_init 26 = .ok (.aload 5, 2) := by decide +kernel
theorem dX4_init_28 : decode cX4_init 28 = .ok (.putfield 26, 3) := by decide +kernel
theorem dX4_init_31 : decode cX4_init 31 = .ok (.return_, 1) := by decide +kernel
set_option maxRecDepth 20000 in
theorem ggX4_sendAll_X1_restart : GoodIn wsX4_sendAll wsX1_restart := goodIn_r _ [10, 11, 131, 132] (by decide +kernel) (by decide +kernel)
set_option maxRecDepth 20000 in
theorem gX4_sendAll_X1_restart : GoodIn wsX4_sendAll (wsV RX4 30 RX1 yX1_restart wsX1_restart) := goodIn_app (goodIn_of _ (by decide +kernel)) ggX4_sendAll_X1_restart
set_option maxRecDepth 20000 in
theorem ggX4_sendAll_X4_sendStart : GoodIn wsX4_sendAll wsX4_sendStart := goodIn_ca (goodIn_r _ [16, 4, 17, 1, 18, 19, 20, 21, 22, 23, 24, 25, 26, 27, 9, 28, 11, 29, 30, 31, 32, 33, 34, 35, 36, 15, 37, 5, 38, 116, 117, 118, 119, 120, 126, 127, 128, 129, 130, 131, 132] (by decide +kernel) (by decide +kernel)) (goodIn_sub (fun _ h => List.mem_cons_of_mem _ (List.mem_append_right _ h)) (by decide +kernel))
set_option maxRecDepth 20000 in
theorem gX4_sendAll_X4_sendStart : GoodIn wsX4_sendAll (wsV RX4 46 RX4 yX4_sendStart wsX4_sendStart) := goodIn_app (goodIn_of _ (by decide +kernel)) ggX4_sendAll_X4_sendStart
set_option maxRecDepth 20000 in
theorem ggX4_sendAll_X4_sendPlain : GoodIn wsX4_sendAll wsX4_sendPlain := goodIn_ca (goodIn_r _ [42, 2, 43, 44, 45, 46, 47, 48, 49, 50, 51, 52, 53, 54, 55, 56, 57, 58, 59, 60, 61, 62, 63, 64, 65, 66, 67, 68, 69, 70, 71, 72, 73, 74, 75, 76, 77, 15, 78, 79, 80, 1, 81, 82, 83, 84, 85, 86, 87, 88, 89, 90, 91, 92, 93, 94, 38, 30, 31, 9, 32, 11, 33, 116, 117, 118, 119, 120, 121, 122, 123, 124, 125, 133, 134, 135, 136, 131, 132] (by decide +kernel) (by decide +kernel)) (goodIn_sub (fun _ h => List.mem_cons_of_mem _ (List.mem_append_right _ h)) (by decide +kernel))
set_option maxRecDepth 20000 in
theorem gX4_sendAll_X4_sendPlain : GoodIn wsX4_sendAll (wsV RX4 50 RX4 yX4_sendPlain wsX4_sendPlain) := goodIn_app (goodIn_of _ (by decide +kernel)) ggX4_sendAll_X4_sendPlain
set_option maxRecDepth 20000 in
theorem ggX4_sendAll_X4_sendDrawn : GoodIn wsX4_sendAll wsX4_sendDrawn := goodIn_ca (goodIn_r _ [98, 2, 43, 99, 100, 101, 47, 102, 103, 104, 105, 106, 53, 58, 59, 60, 61, 62, 63, 64, 65, 66, 67, 107, 45, 46, 48, 49, 50, 51, 52, 54, 55, 56, 57, 68, 69, 70, 71, 72, 73, 74, 44, 108, 109, 110, 15, 111, 1, 38, 30, 31, 9, 32, 11, 33, 75, 76, 77, 78, 79, 80, 81, 82, 83, 84, 85, 86, 87, 88, 89, 90, 91, 92, 93, 94, 116, 117, 118, 119, 120, 121, 122, 123, 124, 125, 131, 132, 133, 134, 135, 136] (by decide +kernel) (by decide +kernel)) (goodIn_sub (fun _ h => List.mem_cons_of_mem _ (List.mem_append_right _ h)) (by decide +kernel))
set_option maxRecDepth 20000 in
theorem gX4_sendAll_X4_sendDrawn : GoodIn wsX4_sendAll (wsV RX4 54 RX4 yX4_sendDrawn wsX4_sendDrawn) := goodIn_app (goodIn_of _ (by decide +kernel)) ggX4_sendAll_X4_sendDrawn
set_option maxRecDepth 20000 in
theorem ggX4_sendAll_X4_sendEnd : GoodIn wsX4_sendAll wsX4_sendEnd := goodIn_ca (goodIn_r _ [115, 4, 5, 17, 1, 25, 26, 27, 9, 28, 11, 29, 30, 31, 32, 33, 18, 19, 20, 21, 22, 23, 24, 34, 35, 36, 15, 37, 38, 116, 117, 118, 119, 120, 126, 127, 128, 129, 130, 131, 132] (by decide +kernel) (by decide +kernel)) (goodIn_sub (fun _ h => List.mem_cons_of_mem _ (List.mem_append_right _ h)) (by decide +kernel))
set_option maxRecDepth 20000 in
theorem gX4_sendAll_X4_sendEnd : GoodIn wsX4_sendAll (wsV RX4 57 RX4 yX4_sendEnd wsX4_sendEnd) := goodIn_app (goodIn_of _ (by decide +kernel)) ggX4_sendAll_X4_sendEnd
theorem dX4_sendAll_0 : decode cX4_sendAll 0 = .ok (.aload_n 0, 1) := by decide +kernel
theorem dX4_sendAll_1 : decode cX4_sendAll 1 = .ok (.getfield 26, 3) := by decide +kernel
theorem dX4_sendAll_4 : decode cX4_sendAll 4 = .ok (.invokevirtual 30, 3) := by decide +kernel
theorem dX4_sendAll_7 : decode cX4_sendAll 7 = .ok (.iconst 0, 1) := by decide +kernel
theorem dX4_sendAll_8 : decode cX4_sendAll 8 = .ok (.istore_n 1, 1) := by decide +kernel
theorem dX4_sendAll_9 : decode cX4_sendAll 9 = .ok (.iload_n 1, 1) := by decide +kernel
theorem dX4_sendAll_10 : decode cX4_sendAll 10 = .ok (.aload_n 0, 1) := by decide +kernel
theorem dX4_sendAll_11 : decode cX4_sendAll 11 = .ok (.getfield 15, 3) := by decide +kernel
theorem dX4_sendAll_14 : decode cX4_sendAll 14 = .ok (.getfield 35, 3) := by decide +kernel
theorem dX4_sendAll_17 : decode cX4_sendAll 17 = .ok (.if_icmp .ge 64, 3) := by decide +kernel
theorem dX4_sendAll_20 : decode cX4_sendAll 20 = .ok (.aload_n 0, 1) := by decide +kernel
theorem dX4_sendAll_21 : decode cX4_sendAll 21 = .ok (.getfield 9, 3) := by decide +kernel
theorem dX4_sendAll_24 : decode cX4_sendAll 24 = .ok (.getfield 41, 3) := by decide +kernel
theorem dX4_sendAll_27 : decode cX4_sendAll 27 = .ok (.ifCond .eq 20, 3) := by decide +kernel
theorem dX4_sendAll_30 : decode cX4_sendAll 30 = .ok (.aload_n 0, 1) := by decide +kernel
theorem dX4_sendAll_31 : decode cX4_sendAll 31 = .ok (.getfield 9, 3) := by decide +kernel
theorem dX4_sendAll_34 : decode cX4_sendAll 34 = .ok (.getfield 41, 3) := by decide +kernel
theorem dX4_sendAll_37 : decode cX4_sendAll 37 = .ok (.iconst 1, 1) := by decide +kernel
theorem dX4_sendAll_38 : decode cX4_sendAll 38 = .ok (.if_icmp .ne 13, 3) := by decide +kernel
theorem dX4_sendAll_41 : decode cX4_sendAll 41 = .ok (.iload_n 1, 1) := by decide +kernel
theorem dX4_sendAll_42 : decode cX4_sendAll 42 = .ok (.iconst 4, 1) := by decide +kernel
theorem dX4_sendAll_43 : decode cX4_sendAll 43 = .ok (.irem, 1) := by decide +kernel
theorem dX4_sendAll_44 : decode cX4_sendAll 44 = .ok (.ifCond .ne 7, 3) := by decide +kernel
theorem dX4_sendAll_47 : decode cX4_sendAll 47 = .ok (.iconst 1, 1) := by decide +kernel
theorem dX4_sendAll_48 : decode cX4_sendAll 48 = .ok (.goto 4, 3) := by decide +kernel
theorem dX4_sendAll_51 : decode cX4_sendAll 51 = .ok (.iconst 0, 1) := by decide +kernel
theorem dX4_sendAll_52 : decode cX4_sendAll 52 = .ok (.istore_n 2, 1) := by decide +kernel
theorem dX4_sendAll_53 : decode cX4_sendAll 53 = .ok (.aload_n 0, 1) := by decide +kernel
theorem dX4_sendAll_54 : decode cX4_sendAll 54 = .ok (.iload_n 2, 1) := by decide +kernel
theorem dX4_sendAll_55 : decode cX4_sendAll 55 = .ok (.invokevirtual 46, 3) := by decide +kernel
theorem dX4_sendAll_58 : decode cX4_sendAll 58 = .ok (.iload_n 2, 1) := by decide +kernel
theorem dX4_sendAll_59 : decode cX4_sendAll 59 = .ok (.ifCond .eq 11, 3) := by decide +kernel
theorem dX4_sendAll_62 : decode cX4_sendAll 62 = .ok (.aload_n 0, 1) := by decide +kernel
theorem dX4_sendAll_63 : decode cX4_sendAll 63 = .ok (.iload_n 1, 1) := by decide +kernel
theorem dX4_sendAll_64 : decode cX4_sendAll 64 = .ok (.invokevirtual 50, 3) := by decide +kernel
theorem dX4_sendAll_67 : decode cX4_sendAll 67 = .ok (.goto 8, 3) := by decide +kernel
theorem dX4_sendAll_70 : decode cX4_sendAll 70 = .ok (.aload_n 0, 1) := by decide +kernel
theorem dX4_sendAll_71 : decode cX4_sendAll 71 = .ok (.iload_n 1, 1) := by decide +kernel
theorem dX4_sendAll_72 : decode cX4_sendAll 72 = .ok (.invokevirtual 54, 3) := by decide +kernel
theorem dX4_sendAll_75 : decode cX4_sendAll 75 = .ok (.iinc 1 1, 3) := by decide +kernel
theorem dX4_sendAll_78 : decode cX4_sendAll 78 = .ok (.goto (-69), 3) := by decide +kernel
theorem dX4_sendAll_81 : decode cX4_sendAll 81 = .ok (.aload_n 0, 1) := by decide +kernel
theorem dX4_sendAll_82 : decode cX4_sendAll 82 = .ok (.invokevirtual 57, 3) := by decide +kernel
theorem dX4_sendAll_85 : decode cX4_sendAll 85 = .ok (.return_, 1) := by decide +kernel
set_option maxRecDepth 20000 in
theorem ggX4_sendStart_X5_hasMarks : GoodIn wsX4_sendStart wsX5_hasMarks := goodIn_r _ [8, 9, 10, 34, 35, 36, 37, 38] (by decide +kernel) (by decide +kernel)
set_option maxRecDepth 20000 in
theorem gX4_sendStart_X5_hasMarks : GoodIn wsX4_sendStart (wsV RX4 60 RX5 yX5_hasMarks wsX5_hasMarks) := goodIn_app (goodIn_of _ (by decide +kernel)) ggX4_sendStart_X5_hasMarks
set_option maxRecDepth 20000 in
theorem ggX4_sendStart_X1_alignFor : GoodIn wsX4_sendStart wsX1_alignFor := goodIn_ca (goodIn_r _ [15, 16, 17, 18, 19, 14, 20, 21, 39, 40] (by decide +kernel) (by decide +kernel)) (goodIn_sub (fun _ h => List.mem_cons_of_mem _ (List.mem_append_right _ h)) (by decide +kernel))
set_option maxRecDepth 20000 in
theorem gX4_sendStart_X1_alignFor : GoodIn wsX4_sendStart (wsV RX4 68 RX1 yX1_alignFor wsX1_alignFor) := goodIn_app (goodIn_of _ (by decide +kernel)) ggX4_sendStart_X1_alignFor
set_option maxRecDepth 20000 in
theorem ggX4_sendStart_X4_sendMark : GoodIn wsX4_sendStart wsX4_sendMark := goodIn_ca (goodIn_r _ [26, 3, 1, 27, 28, 18, 19, 14, 20, 16, 21, 29, 30, 31, 32, 33, 34, 35, 36, 37, 38, 39, 40] (by decide +kernel) (by decide +kernel)) (goodIn_sub (fun _ h => List.mem_cons_of_mem _ (List.mem_append_right _ h)) (by decide +kernel))
set_option maxRecDepth 20000 in
theorem gX4_sendStart_X4_sendMark : GoodIn wsX4_sendStart (wsV RX4 71 RX4 yX4_sendMark wsX4_sendMark) := goodIn_app (goodIn_of _ (by decide +kernel)) ggX4_sendStart_X4_sendMark
theorem dX4_sendStart_0 : decode cX4_sendStart 0 = .ok (.aload_n 0, 1) := by decide +kernel
theorem dX4_sendStart_1 : decode cX4_sendStart 1 = .ok (.getfield 9, 3) := by decide +kernel
theorem dX4_sendStart_4 : decode cX4_sendStart 4 = .ok (.invokevirtual 60, 3) := by decide +kernel
theorem dX4_sendStart_7 : decode cX4_sendStart 7 = .ok (.ifCond .ne 22, 3) := by decide +kernel
theorem dX4_sendStart_10 : decode cX4_sendStart 10 = .ok (.aload_n 0, 1) := by decide +kernel
theorem dX4_sendStart_11 : decode cX4_sendStart 11 = .ok (.getfield 9, 3) := by decide +kernel
theorem dX4_sendStart_14 : decode cX4_sendStart 14 = .ok (.getfield 64, 3) := by decide +kernel
theorem dX4_sendStart_17 : decode cX4_sendStart 17 = .ok (.ifCond .eq 11, 3) := by decide +kernel
theorem dX4_sendStart_20 : decode cX4_sendStart 20 = .ok (.aload_n 0, 1) := by decide +kernel
theorem dX4_sendStart_21 : decode cX4_sendStart 21 = .ok (.getfield 26, 3) := by decide +kernel
theorem dX4_sendStart_24 : decode cX4_sendStart 24 = .ok (.iconst 0, 1) := by decide +kernel
theorem dX4_sendStart_25 : decode cX4_sendStart 25 = .ok (.invokevirtual 68, 3) := by decide +kernel
theorem dX4_sendStart_28 : decode cX4_sendStart 28 = .ok (.return_, 1) := by decide +kernel
theorem dX4_sendStart_29 : decode cX4_sendStart 29 = .ok (.aload_n 0, 1) := by decide +kernel
theorem dX4_sendStart_30 : decode cX4_sendStart 30 = .ok (.getfield 9, 3) := by decide +kernel
theorem dX4_sendStart_33 : decode cX4_sendStart 33 = .ok (.getfield 64, 3) := by decide +kernel
theorem dX4_sendStart_36 : decode cX4_sendStart 36 = .ok (.ifCond .eq 12, 3) := by decide +kernel
theorem dX4_sendStart_39 : decode cX4_sendStart 39 = .ok (.aload_n 0, 1) := by decide +kernel
theorem dX4_sendStart_40 : decode cX4_sendStart 40 = .ok (.getfield 26, 3) := by decide +kernel
theorem dX4_sendStart_43 : decode cX4_sendStart 43 = .ok (.bipush 12, 2) := by decide +kernel
theorem dX4_sendStart_45 : decode cX4_sendStart 45 = .ok (.invokevirtual 68, 3) := by decide +kernel
theorem dX4_sendStart_48 : decode cX4_sendStart 48 = .ok (.aload_n 0, 1) := by decide +kernel
theorem dX4_sendStart_49 : decode cX4_sendStart 49 = .ok (.iload_n 1, 1) := by decide +kernel
theorem dX4_sendStart_50 : decode cX4_sendStart 50 = .ok (.invokevirtual 71, 3) := by decide +kernel
theorem dX4_sendStart_53 : decode cX4_sendStart 53 = .ok (.return_, 1) := by decide +kernel
set_option maxRecDepth 20000 in
theorem ggX4_sendMark_X1_send : GoodIn wsX4_sendMark wsX1_send := goodIn_ca (goodIn_r _ [8, 9, 10, 21, 22] (by decide +kernel) (by decide +kernel)) (goodIn_sub (fun _ h => List.mem_cons_of_mem _ (List.mem_append_right _ h)) (by decide +kernel))
set_option maxRecDepth 20000 in
theorem gX4_sendMark_X1_send : GoodIn wsX4_sendMark (wsV RX4 74 RX1 yX1_send wsX1_send) := goodIn_app (goodIn_of _ (by decide +kernel)) ggX4_sendMark_X1_send
theorem dX4_sendMark_0 : decode cX4_sendMark 0 = .ok (.aload_n 0, 1) := by decide +kernel
theorem dX4_sendMark_1 : decode cX4_sendMark 1 = .ok (.getfield 26, 3) := by decide +kernel
theorem dX4_sendMark_4 : decode cX4_sendMark 4 = .ok (.iconst 1, 1) := by decide +kernel
theorem dX4_sendMark_5 : decode cX4_sendMark 5 = .ok (.bipush 12, 2) := by decide +kernel
theorem dX4_sendMark_7 : decode cX4_sendMark 7 = .ok (.invokevirtual 74, 3) := by decide +kernel
theorem dX4_sendMark_10 : decode cX4_sendMark 10 = .ok (.aload_n 0, 1) := by decide +kernel
theorem dX4_sendMark_11 : decode cX4_sendMark 11 = .ok (.getfield 9, 3) := by decide +kernel
theorem dX4_sendMark_14 : decode cX4_sendMark 14 = .ok (.getfield 41, 3) := by decide +kernel
theorem dX4_sendMark_17 : decode cX4_sendMark 17 = .ok (.iconst 1, 1) := by decide +kernel
theorem dX4_sendMark_18 : decode cX4_sendMark 18 = .ok (.if_icmp .ne 20, 3) := by decide +kernel
theorem dX4_sendMark_21 : decode cX4_sendMark 21 = .ok (.aload_n 0, 1) := by decide +kernel
theorem dX4_sendMark_22 : decode cX4_sendMark 22 = .ok (.getfield 26, 3) := by decide +kernel
theorem dX4_sendMark_25 : decode cX4_sendMark 25 = .ok (.iload_n 1, 1) := by decide +kernel
theorem dX4_sendMark_26 : decode cX4_sendMark 26 = .ok (.ifCond .eq 7, 3) := by decide +kernel
theorem dX4_sendMark_29 : decode cX4_sendMark 29 = .ok (.iconst 1, 1) := by decide +kernel
theorem dX4_sendMark_30 : decode cX4_sendMark 30 = .ok (.goto 4, 3) := by decide +kernel
theorem dX4_sendMark_33 : decode cX4_sendMark 33 = .ok (.iconst 0, 1) := by decide +kernel
theorem dX4_sendMark_34 : decode cX4_sendMark 34 = .ok (.iconst 1, 1) := by decide +kernel
theorem dX4_sendMark_35 : decode cX4_sendMark 35 = .ok (.invokevirtual 74, 3) := by decide +kernel
theorem dX4_sendMark_38 : decode cX4_sendMark 38 = .ok (.return_, 1) := by decide +kernel
set_option maxRecDepth 20000 in
theorem ggX4_sendEnd_X1_alignFor : GoodIn wsX4_sendEnd wsX1_alignFor := goodIn_ca (goodIn_r _ [9, 10, 11, 12, 13, 8, 14, 15, 39, 40] (by decide +kernel) (by decide +kernel)) (goodIn_sub (fun _ h => List.mem_cons_of_mem _ (List.mem_append_right _ h)) (by decide +kernel))
set_option maxRecDepth 20000 in
theorem gX4_sendEnd_X1_alignFor : GoodIn wsX4_sendEnd (wsV RX4 68 RX1 yX1_alignFor wsX1_alignFor) := goodIn_app (goodIn_of _ (by decide +kernel)) ggX4_sendEnd_X1_alignFor
set_option maxRecDepth 20000 in
theorem ggX4_sendEnd_X5_hasMarks : GoodIn wsX4_sendEnd wsX5_hasMarks := goodIn_r _ [20, 21, 22, 34, 35, 36, 37, 38] (by decide +kernel) (by decide +kernel)
set_option maxRecDepth 20000 in
theorem gX4_sendEnd_X5_hasMarks : GoodIn wsX4_sendEnd (wsV RX4 60 RX5 yX5_hasMarks wsX5_hasMarks) := goodIn_app (goodIn_of _ (by decide +kernel)) ggX4_sendEnd_X5_hasMarks
set_option maxRecDepth 20000 in
theorem ggX4_sendEnd_X4_sendMark : GoodIn wsX4_sendEnd wsX4_sendMark := goodIn_ca (goodIn_r _ [27, 4, 1, 2, 28, 12, 13, 8, 14, 10, 15, 29, 30, 31, 32, 33, 34, 35, 36, 37, 38, 39, 40] (by decide +kernel) (by decide +kernel)) (goodIn_sub (fun _ h => List.mem_cons_of_mem _ (List.mem_append_right _ h)) (by decide +kernel))
set_option maxRecDepth 20000 in
theorem gX4_sendEnd_X4_sendMark : GoodIn wsX4_sendEnd (wsV RX4 71 RX4 yX4_sendMark wsX4_sendMark) := goodIn_app (goodIn_of _ (by decide +kernel)) ggX4_sendEnd_X4_sendMark
theorem dX4_sendEnd_0 : decode cX4_sendEnd 0 = .ok (.aload_n 0, 1) := by decide +kernel
theorem dX4_sendEnd_1 : decode cX4_sendEnd 1 = .ok (.getfield 9, 3) := by decide +kernel
theorem dX4_sendEnd_4 : decode cX4_sendEnd 4 = .ok (.getfield 41, 3) := by decide +kernel
theorem dX4_sendEnd_7 : decode cX4_sendEnd 7 = .ok (.iconst 2, 1) := by decide +kernel
theorem dX4_sendEnd_8 : decode cX4_sendEnd 8 = .ok (.if_icmp .ne 21, 3) := by decide +kernel
theorem dX4_sendEnd_11 : decode cX4_sendEnd 11 = .ok (.aload_n 0, 1) := by decide +kernel
theorem dX4_sendEnd_12 : decode cX4_sendEnd 12 = .ok (.getfield 9, 3) := by decide +kernel
theorem dX4_sendEnd_15 : decode cX4_sendEnd 15 = .ok (.getfield 64, 3) := by decide +kernel
theorem dX4_sendEnd_18 : decode cX4_sendEnd 18 = .ok (.ifCond .eq 11, 3) := by decide +kernel
theorem dX4_sendEnd_21 : decode cX4_sendEnd 21 = .ok (.aload_n 0, 1) := by decide +kernel
theorem dX4_sendEnd_22 : decode cX4_sendEnd 22 = .ok (.getfield 26, 3) := by decide +kernel
theorem dX4_sendEnd_25 : decode cX4_sendEnd 25 = .ok (.iconst 0, 1) := by decide +kernel
theorem dX4_sendEnd_26 : decode cX4_sendEnd 26 = .ok (.invokevirtual 68, 3) := by decide +kernel
theorem dX4_sendEnd_29 : decode cX4_sendEnd 29 = .ok (.aload_n 0, 1) := by decide +kernel
theorem dX4_sendEnd_30 : decode cX4_sendEnd 30 = .ok (.getfield 9, 3) := by decide +kernel
theorem dX4_sendEnd_33 : decode cX4_sendEnd 33 = .ok (.invokevirtual 60, 3) := by decide +kernel
theorem dX4_sendEnd_36 : decode cX4_sendEnd 36 = .ok (.ifCond .eq 8, 3) := by decide +kernel
theorem dX4_sendEnd_39 : decode cX4_sendEnd 39 = .ok (.bipush 6, 2) := by decide +kernel
theorem dX4_sendEnd_41 : decode cX4_sendEnd 41 = .ok (.goto 4, 3) := by decide +kernel
theorem dX4_sendEnd_44 : decode cX4_sendEnd 44 = .ok (.iconst 0, 1) := by decide +kernel
theorem dX4_sendEnd_45 : decode cX4_sendEnd 45 = .ok (.istore_n 1, 1) := by decide +kernel
theorem dX4_sendEnd_46 : decode cX4_sendEnd 46 = .ok (.aload_n 0, 1) := by decide +kernel
theorem dX4_sendEnd_47 : decode cX4_sendEnd 47 = .ok (.getfield 9, 3) := by decide +kernel
theorem dX4_sendEnd_50 : decode cX4_sendEnd 50 = .ok (.getfield 41, 3) := by decide +kernel
theorem dX4_sendEnd_53 : decode cX4_sendEnd 53 = .ok (.iconst 2, 1) := by decide +kernel
theorem dX4_sendEnd_54 : decode cX4_sendEnd 54 = .ok (.if_icmp .ne 5, 3) := by decide +kernel
theorem dX4_sendEnd_57 : decode cX4_sendEnd 57 = .ok (.iconst 2, 1) := by decide +kernel
theorem dX4_sendEnd_58 : decode cX4_sendEnd 58 = .ok (.istore_n 1, 1) := by decide +kernel
theorem dX4_sendEnd_59 : decode cX4_sendEnd 59 = .ok (.iconst 0, 1) := by decide +kernel
theorem dX4_sendEnd_60 : decode cX4_sendEnd 60 = .ok (.istore_n 2, 1) := by decide +kernel
theorem dX4_sendEnd_61 : decode cX4_sendEnd 61 = .ok (.iload_n 2, 1) := by decide +kernel
theorem dX4_sendEnd_62 : decode cX4_sendEnd 62 = .ok (.iload_n 1, 1) := by decide +kernel
theorem dX4_sendEnd_63 : decode cX4_sendEnd 63 = .ok (.if_icmp .ge 14, 3) := by decide +kernel
theorem dX4_sendEnd_66 : decode cX4_sendEnd 66 = .ok (.aload_n 0, 1) := by decide +kernel
theorem dX4_sendEnd_67 : decode cX4_sendEnd 67 = .ok (.iconst 1, 1) := by decide +kernel
theorem dX4_sendEnd_68 : decode cX4_sendEnd 68 = .ok (.invokevirtual 71, 3) := by decide +kernel
theorem dX4_sendEnd_71 : decode cX4_sendEnd 71 = .ok (.iinc 2 1, 3) := by decide +kernel
theorem dX4_sendEnd_74 : decode cX4_sendEnd 74 = .ok (.goto (-13), 3) := by decide +kernel
theorem dX4_sendEnd_77 : decode cX4_sendEnd 77 = .ok (.aload_n 0, 1) := by decide +kernel
theorem dX4_sendEnd_78 : decode cX4_sendEnd 78 = .ok (.getfield 26, 3) := by decide +kernel
theorem dX4_sendEnd_81 : decode cX4_sendEnd 81 = .ok (.iconst 0, 1) := by decide +kernel
theorem dX4_sendEnd_82 : decode cX4_sendEnd 82 = .ok (.invokevirtual 68, 3) := by decide +kernel
theorem dX4_sendEnd_85 : decode cX4_sendEnd 85 = .ok (.return_, 1) := by decide +kernel
set_option maxRecDepth 20000 in
theorem ggX4_sendPlain_X2_nextOf : GoodIn wsX4_sendPlain wsX2_nextOf := goodIn_ca (goodIn_r _ [7, 8, 9, 10, 11, 12, 13, 14, 15, 16, 17, 18, 19, 6, 20, 21, 22, 23, 24, 25, 26, 27, 28, 29, 30, 31, 32, 33, 68, 69, 70, 71, 72] (by decide +kernel) (by decide +kernel)) (goodIn_sub (fun _ h => List.mem_cons_of_mem _ (List.mem_append_right _ h)) (by decide +kernel))
set_option maxRecDepth 20000 in
theorem gX4_sendPlain_X2_nextOf : GoodIn wsX4_sendPlain (wsV RX4 81 RX2 yX2_nextOf wsX2_nextOf) := goodIn_app (goodIn_of _ (by decide +kernel)) ggX4_sendPlain_X2_nextOf
set_option maxRecDepth 20000 in
theorem ggX4_sendPlain_X4_sendRun : GoodIn wsX4_sendPlain wsX4_sendRun := goodIn_ca (goodIn_r _ [38, 39, 40, 41, 42, 43, 44, 45, 46, 47, 48, 49, 50, 51, 52, 53, 54, 55, 56, 57, 58, 59, 60, 61, 62, 63, 64, 65, 66, 67, 73, 74, 75, 76, 77, 78] (by decide +kernel) (by decide +kernel)) (goodIn_sub (fun _ h => List.mem_cons_of_mem _ (List.mem_append_right _ h)) (by decide +kernel))
set_option maxRecDepth 20000 in
theorem gX4_sendPlain_X4_sendRun : GoodIn wsX4_sendPlain (wsV RX4 85 RX4 yX4_sendRun wsX4_sendRun) := goodIn_app (goodIn_of _ (by decide +kernel)) ggX4_sendPlain_X4_sendRun
theorem dX4_sendPlain_0 : decode cX4_sendPlain 0 = .ok (.iconst 0, 1) := by decide +kernel
theorem dX4_sendPlain_1 : decode cX4_sendPlain 1 = .ok (.istore_n 2, 1) := by decide +kernel
theorem dX4_sendPlain_2 : decode cX4_sendPlain 2 = .ok (.iconst 0, 1) := by decide +kernel
theorem dX4_sendPlain_3 : decode cX4_sendPlain 3 = .ok (.istore_n 3, 1) := by decide +kernel
theorem dX4_sendPlain_4 : decode cX4_sendPlain 4 = .ok (.iconst 0, 1) := by decide +kernel
theorem dX4_sendPlain_5 : decode cX4_sendPlain 5 = .ok (.istore 4, 2) := by decide +kernel
theorem dX4_sendPlain_7 : decode cX4_sendPlain 7 = .ok (.iload_n 2, 1) := by decide +kernel
theorem dX4_sendPlain_8 : decode cX4_sendPlain 8 = .ok (.aload_n 0, 1) := by decide +kernel
theorem dX4_sendPlain_9 : decode cX4_sendPlain 9 = .ok (.getfield 15, 3) := by decide +kernel
theorem dX4_sendPlain_12 : decode cX4_sendPlain 12 = .ok (.getfield 78, 3) := by decide +kernel
theorem dX4_sendPlain_15 : decode cX4_sendPlain 15 = .ok (.if_icmp .ge 63, 3) := by decide +kernel
theorem dX4_sendPlain_18 : decode cX4_sendPlain 18 = .ok (.iload 4, 2) := by decide +kernel
theorem dX4_sendPlain_20 : decode cX4_sendPlain 20 = .ok (.aload_n 0, 1) := by decide +kernel
theorem dX4_sendPlain_21 : decode cX4_sendPlain 21 = .ok (.getfield 15, 3) := by decide +kernel
theorem dX4_sendPlain_24 : decode cX4_sendPlain 24 = .ok (.getfield 78, 3) := by decide +kernel
theorem dX4_sendPlain_27 : decode cX4_sendPlain 27 = .ok (.if_icmp .gt 51, 3) := by decide +kernel
theorem dX4_sendPlain_30 : decode cX4_sendPlain 30 = .ok (.aload_n 0, 1) := by decide +kernel
theorem dX4_sendPlain_31 : decode cX4_sendPlain 31 = .ok (.getfield 15, 3) := by decide +kernel
theorem dX4_sendPlain_34 : decode cX4_sendPlain 34 = .ok (.iload_n 1, 1) := by decide +kernel
theorem dX4_sendPlain_35 : decode cX4_sendPlain 35 = .ok (.iload_n 2, 1) := by decide +kernel
theorem dX4_sendPlain_36 : decode cX4_sendPlain 36 = .ok (.iload_n 3, 1) := by decide +kernel
theorem dX4_sendPlain_37 : decode cX4_sendPlain 37 = .ok (.ifCond .ne 7, 3) := by decide +kernel
theorem dX4_sendPlain_40 : decode cX4_sendPlain 40 = .ok (.iconst 1, 1) := by decide +kernel
theorem dX4_sendPlain_41 : decode cX4_sendPlain 41 = .ok (.goto 4, 3) := by decide +kernel
theorem dX4_sendPlain_44 : decode cX4_sendPlain 44 = .ok (.iconst 0, 1) := by decide +kernel
theorem dX4_sendPlain_45 : decode cX4_sendPlain 45 = .ok (.invokevirtual 81, 3) := by decide +kernel
theorem dX4_sendPlain_48 : decode cX4_sendPlain 48 = .ok (.istore 5, 2) := by decide +kernel
theorem dX4_sendPlain_50 : decode cX4_sendPlain 50 = .ok (.aload_n 0, 1) := by decide +kernel
theorem dX4_sendPlain_51 : decode cX4_sendPlain 51 = .ok (.iload 5, 2) := by decide +kernel
theorem dX4_sendPlain_53 : decode cX4_sendPlain 53 = .ok (.iload_n 2, 1) := by decide +kernel
theorem dX4_sendPlain_54 : decode cX4_sendPlain 54 = .ok (.isub, 1) := by decide +kernel
theorem dX4_sendPlain_55 : decode cX4_sendPlain 55 = .ok (.iload_n 3, 1) := by decide +kernel
theorem dX4_sendPlain_56 : decode cX4_sendPlain 56 = .ok (.invokevirtual 85, 3) := by decide +kernel
theorem dX4_sendPlain_59 : decode cX4_sendPlain 59 = .ok (.iload 5, 2) := by decide +kernel
theorem dX4_sendPlain_61 : decode cX4_sendPlain 61 = .ok (.istore_n 2, 1) := by decide +kernel
theorem dX4_sendPlain_62 : decode cX4_sendPlain 62 = .ok (.iload_n 3, 1) := by decide +kernel
theorem dX4_sendPlain_63 : decode cX4_sendPlain 63 = .ok (.ifCond .ne 7, 3) := by decide +kernel
theorem dX4_sendPlain_66 : decode cX4_sendPlain 66 = .ok (.iconst 1, 1) := by decide +kernel
theorem dX4_sendPlain_67 : decode cX4_sendPlain 67 = .ok (.goto 4, 3) := by decide +kernel
theorem dX4_sendPlain_70 : decode cX4_sendPlain 70 = .ok (.iconst 0, 1) := by decide +kernel
theorem dX4_sendPlain_71 : decode cX4_sendPlain 71 = .ok (.istore_n 3, 1) := by decide +kernel
theorem dX4_sendPlain_72 : decode cX4_sendPlain 72 = .ok (.iinc 4 1, 3) := by decide +kernel
theorem dX4_sendPlain_75 : decode cX4_sendPlain 75 = .ok (.goto (-68), 3) := by decide +kernel
theorem dX4_sendPlain_78 : decode cX4_sendPlain 78 = .ok (.return_, 1) := by decide +kernel
set_option maxRecDepth 20000 in
theorem ggX4_sendDrawn_X2_changeTo : GoodIn wsX4_sendDrawn wsX2_changeTo := goodIn_ca (goodIn_r _ [7, 8, 9, 10, 6, 11, 12, 13, 14, 15, 16, 17, 18, 19, 20, 21, 22, 23, 24, 25, 26, 27, 28, 29, 30, 31, 32, 33, 34, 35, 36, 37, 38, 39, 40, 41, 81, 82, 83, 84, 85] (by decide +kernel) (by decide +kernel)) (goodIn_sub (fun _ h => List.mem_cons_of_mem _ (List.mem_append_right _ h)) (by decide +kernel))
set_option maxRecDepth 20000 in
theorem gX4_sendDrawn_X2_changeTo : GoodIn wsX4_sendDrawn (wsV RX4 89 RX2 yX2_changeTo wsX2_changeTo) := goodIn_app (goodIn_of _ (by decide +kernel)) ggX4_sendDrawn_X2_changeTo
set_option maxRecDepth 20000 in
theorem ggX4_sendDrawn_X2_nextOf : GoodIn wsX4_sendDrawn wsX2_nextOf := goodIn_ca (goodIn_r _ [26, 27, 28, 29, 30, 12, 31, 32, 33, 34, 13, 14, 15, 6, 16, 17, 18, 19, 20, 21, 22, 35, 36, 37, 38, 39, 40, 41, 81, 82, 83, 84, 85] (by decide +kernel) (by decide +kernel)) (goodIn_sub (fun _ h => List.mem_cons_of_mem _ (List.mem_append_right _ h)) (by decide +kernel))
set_option maxRecDepth 20000 in
theorem gX4_sendDrawn_X2_nextOf : GoodIn wsX4_sendDrawn (wsV RX4 81 RX2 yX2_nextOf wsX2_nextOf) := goodIn_app (goodIn_of _ (by decide +kernel)) ggX4_sendDrawn_X2_nextOf
set_option maxRecDepth 20000 in
theorem ggX4_sendDrawn_X4_sendWay : GoodIn wsX4_sendDrawn wsX4_sendWay := goodIn_ca (goodIn_r _ [47, 48, 49, 50, 51, 52, 53, 54, 55, 76, 77, 78, 79, 80, 86, 87] (by decide +kernel) (by decide +kernel)) (goodIn_sub (fun _ h => List.mem_cons_of_mem _ (List.mem_append_right _ h)) (by decide +kernel))
set_option maxRecDepth 20000 in
theorem gX4_sendDrawn_X4_sendWay : GoodIn wsX4_sendDrawn (wsV RX4 92 RX4 yX4_sendWay wsX4_sendWay) := goodIn_app (goodIn_of _ (by decide +kernel)) ggX4_sendDrawn_X4_sendWay
set_option maxRecDepth 20000 in
theorem ggX4_sendDrawn_X4_sendRun : GoodIn wsX4_sendDrawn wsX4_sendRun := goodIn_ca (goodIn_r _ [59, 60, 61, 48, 62, 63, 64, 65, 66, 67, 68, 69, 70, 71, 72, 73, 74, 75, 49, 50, 51, 52, 53, 54, 55, 76, 77, 78, 79, 80, 88, 89, 90, 91, 86, 87] (by decide +kernel) (by decide +kernel)) (goodIn_sub (fun _ h => List.mem_cons_of_mem _ (List.mem_append_right _ h)) (by decide +kernel))
set_option maxRecDepth 20000 in
theorem gX4_sendDrawn_X4_sendRun : GoodIn wsX4_sendDrawn (wsV RX4 85 RX4 yX4_sendRun wsX4_sendRun) := goodIn_app (goodIn_of _ (by decide +kernel)) ggX4_sendDrawn_X4_sendRun
theorem dX4_sendDrawn_0 : decode cX4_sendDrawn 0 = .ok (.iconst 0, 1) := by decide +kernel
theorem dX4_sendDrawn_1 : decode cX4_sendDrawn 1 = .ok (.istore_n 2, 1) := by decide +kernel
theorem dX4_sendDrawn_2 : decode cX4_sendDrawn 2 = .ok (.iconst 0, 1) := by decide +kernel
theorem dX4_sendDrawn_3 : decode cX4_sendDrawn 3 = .ok (.istore_n 3, 1) := by decide +kernel
theorem dX4_sendDrawn_4 : decode cX4_sendDrawn 4 = .ok (.iconst 0, 1) := by decide +kernel
theorem dX4_sendDrawn_5 : decode cX4_sendDrawn 5 = .ok (.istore 4, 2) := by decide +kernel
theorem dX4_sendDrawn_7 : decode cX4_sendDrawn 7 = .ok (.iload_n 2, 1) := by decide +kernel
theorem dX4_sendDrawn_8 : decode cX4_sendDrawn 8 = .ok (.aload_n 0, 1) := by decide +kernel
theorem dX4_sendDrawn_9 : decode cX4_sendDrawn 9 = .ok (.getfield 15, 3) := by decide +kernel
theorem dX4_sendDrawn_12 : decode cX4_sendDrawn 12 = .ok (.getfield 78, 3) := by decide +kernel
theorem dX4_sendDrawn_15 : decode cX4_sendDrawn 15 = .ok (.if_icmp .ge 202, 3) := by decide +kernel
theorem dX4_sendDrawn_18 : decode cX4_sendDrawn 18 = .ok (.iload 4, 2) := by decide +kernel
theorem dX4_sendDrawn_20 : decode cX4_sendDrawn 20 = .ok (.aload_n 0, 1) := by decide +kernel
theorem dX4_sendDrawn_21 : decode cX4_sendDrawn 21 = .ok (.getfield 15, 3) := by decide +kernel
theorem dX4_sendDrawn_24 : decode cX4_sendDrawn 24 = .ok (.getfield 78, 3) := by decide +kernel
theorem dX4_sendDrawn_27 : decode cX4_sendDrawn 27 = .ok (.if_icmp .gt 190, 3) := by decide +kernel
theorem dX4_sendDrawn_30 : decode cX4_sendDrawn 30 = .ok (.aload_n 0, 1) := by decide +kernel
theorem dX4_sendDrawn_31 : decode cX4_sendDrawn 31 = .ok (.getfield 15, 3) := by decide +kernel
theorem dX4_sendDrawn_34 : decode cX4_sendDrawn 34 = .ok (.iload_n 1, 1) := by decide +kernel
theorem dX4_sendDrawn_35 : decode cX4_sendDrawn 35 = .ok (.iconst 1, 1) := by decide +kernel
theorem dX4_sendDrawn_36 : decode cX4_sendDrawn 36 = .ok (.isub, 1) := by decide +kernel
theorem dX4_sendDrawn_37 : decode cX4_sendDrawn 37 = .ok (.iload 4, 2) := by decide +kernel
theorem dX4_sendDrawn_39 : decode cX4_sendDrawn 39 = .ok (.ifCond .ne 7, 3) := by decide +kernel
theorem dX4_sendDrawn_42 : decode cX4_sendDrawn 42 = .ok (.iload_n 2, 1) := by decide +kernel
theorem dX4_sendDrawn_43 : decode cX4_sendDrawn 43 = .ok (.goto 6, 3) := by decide +kernel
theorem dX4_sendDrawn_46 : decode cX4_sendDrawn 46 = .ok (.iload_n 2, 1) := by decide +kernel
theorem dX4_sendDrawn_47 : decode cX4_sendDrawn 47 = .ok (.iconst 1, 1) := by decide +kernel
theorem dX4_sendDrawn_48 : decode cX4_sendDrawn 48 = .ok (.iadd, 1) := by decide +kernel
theorem dX4_sendDrawn_49 : decode cX4_sendDrawn 49 = .ok (.iload_n 3, 1) := by decide +kernel
theorem dX4_sendDrawn_50 : decode cX4_sendDrawn 50 = .ok (.ifCond .ne 7, 3) := by decide +kernel
theorem dX4_sendDrawn_53 : decode cX4_sendDrawn 53 = .ok (.iconst 1, 1) := by decide +kernel
theorem dX4_sendDrawn_54 : decode cX4_sendDrawn 54 = .ok (.goto 4, 3) := by decide +kernel
theorem dX4_sendDrawn_57 : decode cX4_sendDrawn 57 = .ok (.iconst 0, 1) := by decide +kernel
theorem dX4_sendDrawn_58 : decode cX4_sendDrawn 58 = .ok (.invokevirtual 89, 3) := by decide +kernel
theorem dX4_sendDrawn_61 : decode cX4_sendDrawn 61 = .ok (.istore 5, 2) := by decide +kernel
theorem dX4_sendDrawn_63 : decode cX4_sendDrawn 63 = .ok (.aload_n 0, 1) := by decide +kernel
theorem dX4_sendDrawn_64 : decode cX4_sendDrawn 64 = .ok (.getfield 15, 3) := by decide +kernel
theorem dX4_sendDrawn_67 : decode cX4_sendDrawn 67 = .ok (.iload_n 1, 1) := by decide +kernel
theorem dX4_sendDrawn_68 : decode cX4_sendDrawn 68 = .ok (.iconst 1, 1) := by decide +kernel
theorem dX4_sendDrawn_69 : decode cX4_sendDrawn 69 = .ok (.isub, 1) := by decide +kernel
theorem dX4_sendDrawn_70 : decode cX4_sendDrawn 70 = .ok (.iload 5, 2) := by decide +kernel
theorem dX4_sendDrawn_72 : decode cX4_sendDrawn 72 = .ok (.iload_n 3, 1) := by decide +kernel
theorem dX4_sendDrawn_73 : decode cX4_sendDrawn 73 = .ok (.invokevirtual 81, 3) := by decide +kernel
theorem dX4_sendDrawn_76 : decode cX4_sendDrawn 76 = .ok (.istore 6, 2) := by decide +kernel
theorem dX4_sendDrawn_78 : decode cX4_sendDrawn 78 = .ok (.aload_n 0, 1) := by decide +kernel
theorem dX4_sendDrawn_79 : decode cX4_sendDrawn 79 = .ok (.getfield 15, 3) := by decide +kernel
theorem dX4_sendDrawn_82 : decode cX4_sendDrawn 82 = .ok (.iload_n 1, 1) := by decide +kernel
theorem dX4_sendDrawn_83 : decode cX4_sendDrawn 83 = .ok (.iload_n 2, 1) := by decide +kernel
theorem dX4_sendDrawn_84 : decode cX4_sendDrawn 84 = .ok (.iload_n 3, 1) := by decide +kernel
theorem dX4_sendDrawn_85 : decode cX4_sendDrawn 85 = .ok (.ifCond .ne 7, 3) := by decide +kernel
theorem dX4_sendDrawn_88 : decode cX4_sendDrawn 88 = .ok (.iconst 1, 1) := by decide +kernel
theorem dX4_sendDrawn_89 : decode cX4_sendDrawn 89 = .ok (.goto 4, 3) := by decide +kernel
theorem dX4_sendDrawn_92 : decode cX4_sendDrawn 92 = .ok (.iconst 0, 1) := by decide +kernel
theorem dX4_sendDrawn_93 : decode cX4_sendDrawn 93 = .ok (.invokevirtual 81, 3) := by decide +kernel
theorem dX4_sendDrawn_96 : decode cX4_sendDrawn 96 = .ok (.istore 7, 2) := by decide +kernel
theorem dX4_sendDrawn_98 : decode cX4_sendDrawn 98 = .ok (.iload 6, 2) := by decide +kernel
theorem dX4_sendDrawn_100 : decode cX4_sendDrawn 100 = .ok (.iload 7, 2) := by decide +kernel
theorem dX4_sendDrawn_102 : decode cX4_sendDrawn 102 = .ok (.if_icmp .ge 15, 3) := by decide +kernel
theorem dX4_sendDrawn_105 : decode cX4_sendDrawn 105 = .ok (.aload_n 0, 1) := by decide +kernel
theorem dX4_sendDrawn_106 : decode cX4_sendDrawn 106 = .ok (.bipush 7, 2) := by decide +kernel
theorem dX4_sendDrawn_108 : decode cX4_sendDrawn 108 = .ok (.invokevirtual 92, 3) := by decide +kernel
theorem dX4_sendDrawn_111 : decode cX4_sendDrawn 111 = .ok (.iload 6, 2) := by decide +kernel
theorem dX4_sendDrawn_113 : decode cX4_sendDrawn 113 = .ok (.istore_n 2, 1) := by decide +kernel
theorem dX4_sendDrawn_114 : decode cX4_sendDrawn 114 = .ok (.goto 97, 3) := by decide +kernel
theorem dX4_sendDrawn_117 : decode cX4_sendDrawn 117 = .ok (.iload 7, 2) := by decide +kernel
theorem dX4_sendDrawn_119 : decode cX4_sendDrawn 119 = .ok (.iload 5, 2) := by decide +kernel
theorem dX4_sendDrawn_121 : decode cX4_sendDrawn 121 = .ok (.iconst 3, 1) := by decide +kernel
theorem dX4_sendDrawn_122 : decode cX4_sendDrawn 122 = .ok (.isub, 1) := by decide +kernel
theorem dX4_sendDrawn_123 : decode cX4_sendDrawn 123 = .ok (.if_icmp .lt 39, 3) := by decide +kernel
theorem dX4_sendDrawn_126 : decode cX4_sendDrawn 126 = .ok (.iload 7, 2) := by decide +kernel
theorem dX4_sendDrawn_128 : decode cX4_sendDrawn 128 = .ok (.iload 5, 2) := by decide +kernel
theorem dX4_sendDrawn_130 : decode cX4_sendDrawn 130 = .ok (.iconst 3, 1) := by decide +kernel
theorem dX4_sendDrawn_131 : decode cX4_sendDrawn 131 = .ok (.iadd, 1) := by decide +kernel
theorem dX4_sendDrawn_132 : decode cX4_sendDrawn 132 = .ok (.if_icmp .gt 30, 3) := by decide +kernel
theorem dX4_sendDrawn_135 : decode cX4_sendDrawn 135 = .ok (.aload_n 0, 1) := by decide +kernel
theorem dX4_sendDrawn_136 : decode cX4_sendDrawn 136 = .ok (.iload 7, 2) := by decide +kernel
theorem dX4_sendDrawn_138 : decode cX4_sendDrawn 138 = .ok (.iload 5, 2) := by decide +kernel
theorem dX4_sendDrawn_140 : decode cX4_sendDrawn 140 = .ok (.isub, 1) := by decide +kernel
theorem dX4_sendDrawn_141 : decode cX4_sendDrawn 141 = .ok (.iconst 3, 1) := by decide +kernel
theorem dX4_sendDrawn_142 : decode cX4_sendDrawn 142 = .ok (.iadd, 1) := by decide +kernel
theorem dX4_sendDrawn_143 : decode cX4_sendDrawn 143 = .ok (.invokevirtual 92, 3) := by decide +kernel
theorem dX4_sendDrawn_146 : decode cX4_sendDrawn 146 = .ok (.iload 7, 2) := by decide +kernel
theorem dX4_sendDrawn_148 : decode cX4_sendDrawn 148 = .ok (.istore_n 2, 1) := by decide +kernel
theorem dX4_sendDrawn_149 : decode cX4_sendDrawn 149 = .ok (.iload_n 3, 1) := by decide +kernel
theorem dX4_sendDrawn_150 : decode cX4_sendDrawn 150 = .ok (.ifCond .ne 7, 3) := by decide +kernel
theorem dX4_sendDrawn_153 : decode cX4_sendDrawn 153 = .ok (.iconst 1, 1) := by decide +kernel
theorem dX4_sendDrawn_154 : decode cX4_sendDrawn 154 = .ok (.goto 4, 3) := by decide +kernel
theorem dX4_sendDrawn_157 : decode cX4_sendDrawn 157 = .ok (.iconst 0, 1) := by decide +kernel
theorem dX4_sendDrawn_158 : decode cX4_sendDrawn 158 = .ok (.istore_n 3, 1) := by decide +kernel
theorem dX4_sendDrawn_159 : decode cX4_sendDrawn 159 = .ok (.goto 52, 3) := by decide +kernel
theorem dX4_sendDrawn_162 : decode cX4_sendDrawn 162 = .ok (.aload_n 0, 1) := by decide +kernel
theorem dX4_sendDrawn_163 : decode cX4_sendDrawn 163 = .ok (.getfield 15, 3) := by decide +kernel
theorem dX4_sendDrawn_166 : decode cX4_sendDrawn 166 = .ok (.iload_n 1, 1) := by decide +kernel
theorem dX4_sendDrawn_167 : decode cX4_sendDrawn 167 = .ok (.iload 7, 2) := by decide +kernel
theorem dX4_sendDrawn_169 : decode cX4_sendDrawn 169 = .ok (.iload_n 3, 1) := by decide +kernel
theorem dX4_sendDrawn_170 : decode cX4_sendDrawn 170 = .ok (.invokevirtual 81, 3) := by decide +kernel
theorem dX4_sendDrawn_173 : decode cX4_sendDrawn 173 = .ok (.istore 8, 2) := by decide +kernel
theorem dX4_sendDrawn_175 : decode cX4_sendDrawn 175 = .ok (.aload_n 0, 1) := by decide +kernel
theorem dX4_sendDrawn_176 : decode cX4_sendDrawn 176 = .ok (.bipush 8, 2) := by decide +kernel
theorem dX4_sendDrawn_178 : decode cX4_sendDrawn 178 = .ok (.invokevirtual 92, 3) := by decide +kernel
theorem dX4_sendDrawn_181 : decode cX4_sendDrawn 181 = .ok (.aload_n 0, 1) := by decide +kernel
theorem dX4_sendDrawn_182 : decode cX4_sendDrawn 182 = .ok (.iload 7, 2) := by decide +kernel
theorem dX4_sendDrawn_184 : decode cX4_sendDrawn 184 = .ok (.iload_n 2, 1) := by decide +kernel
theorem dX4_sendDrawn_185 : decode cX4_sendDrawn 185 = .ok (.isub, 1) := by decide +kernel
theorem dX4_sendDrawn_186 : decode cX4_sendDrawn 186 = .ok (.iload_n 3, 1) := by decide +kernel
theorem dX4_sendDrawn_187 : decode cX4_sendDrawn 187 = .ok (.invokevirtual 85, 3) := by decide +kernel
theorem dX4_sendDrawn_190 : decode cX4_sendDrawn 190 = .ok (.aload_n 0, 1) := by decide +kernel
theorem dX4_sendDrawn_191 : decode cX4_sendDrawn 191 = .ok (.iload 8, 2) := by decide +kernel
theorem dX4_sendDrawn_193 : decode cX4_sendDrawn 193 = .ok (.iload 7, 2) := by decide +kernel
theorem dX4_sendDrawn_195 : decode cX4_sendDrawn 195 = .ok (.isub, 1) := by decide +kernel
theorem dX4_sendDrawn_196 : decode cX4_sendDrawn 196 = .ok (.iload_n 3, 1) := by decide +kernel
theorem dX4_sendDrawn_197 : decode cX4_sendDrawn 197 = .ok (.ifCond .ne 7, 3) := by decide +kernel
theorem dX4_sendDrawn_200 : decode cX4_sendDrawn 200 = .ok (.iconst 1, 1) := by decide +kernel
theorem dX4_sendDrawn_201 : decode cX4_sendDrawn 201 = .ok (.goto 4, 3) := by decide +kernel
theorem dX4_sendDrawn_204 : decode cX4_sendDrawn 204 = .ok (.iconst 0, 1) := by decide +kernel
theorem dX4_sendDrawn_205 : decode cX4_sendDrawn 205 = .ok (.invokevirtual 85, 3) := by decide +kernel
theorem dX4_sendDrawn_208 : decode cX4_sendDrawn 208 = .ok (.iload 8, 2) := by decide +kernel
theorem dX4_sendDrawn_210 : decode cX4_sendDrawn 210 = .ok (.istore_n 2, 1) := by decide +kernel
theorem dX4_sendDrawn_211 : decode cX4_sendDrawn 211 = .ok (.iinc 4 1, 3) := by decide +kernel
theorem dX4_sendDrawn_214 : decode cX4_sendDrawn 214 = .ok (.goto (-207), 3) := by decide +kernel
theorem dX4_sendDrawn_217 : decode cX4_sendDrawn 217 = .ok (.return_, 1) := by decide +kernel
set_option maxRecDepth 20000 in
theorem ggX4_sendWay_X1_send : GoodIn wsX4_sendWay wsX1_send := goodIn_ca (goodIn_r _ [6, 7, 8, 14, 15] (by decide +kernel) (by decide +kernel)) (goodIn_sub (fun _ h => List.mem_cons_of_mem _ (List.mem_append_right _ h)) (by decide +kernel))
set_option maxRecDepth 20000 in
theorem gX4_sendWay_X1_send : GoodIn wsX4_sendWay (wsV RX4 74 RX1 yX1_send wsX1_send) := goodIn_app (goodIn_of _ (by decide +kernel)) ggX4_sendWay_X1_send
theorem dX4_sendWay_0 : decode cX4_sendWay 0 = .ok (.iload_n 1, 1) := by decide +kernel
theorem dX4_sendWay_1 : decode cX4_sendWay 1 = .ok (.ifCond .lt 36, 3) := by decide +kernel
theorem dX4_sendWay_4 : decode cX4_sendWay 4 = .ok (.iload_n 1, 1) := by decide +kernel
theorem dX4_sendWay_5 : decode cX4_sendWay 5 = .ok (.getstatic 95, 3) := by decide +kernel
theorem dX4_sendWay_8 : decode cX4_sendWay 8 = .ok (.arraylength, 1) := by decide +kernel
theorem dX4_sendWay_9 : decode cX4_sendWay 9 = .ok (.if_icmp .ge 28, 3) := by decide +kernel
theorem dX4_sendWay_12 : decode cX4_sendWay 12 = .ok (.iload_n 1, 1) := by decide +kernel
theorem dX4_sendWay_13 : decode cX4_sendWay 13 = .ok (.getstatic 99, 3) := by decide +kernel
theorem dX4_sendWay_16 : decode cX4_sendWay 16 = .ok (.arraylength, 1) := by decide +kernel
theorem dX4_sendWay_17 : decode cX4_sendWay 17 = .ok (.if_icmp .ge 20, 3) := by decide +kernel
theorem dX4_sendWay_20 : decode cX4_sendWay 20 = .ok (.aload_n 0, 1) := by decide +kernel
theorem dX4_sendWay_21 : decode cX4_sendWay 21 = .ok (.getfield 26, 3) := by decide +kernel
theorem dX4_sendWay_24 : decode cX4_sendWay 24 = .ok (.getstatic 95, 3) := by decide +kernel
theorem dX4_sendWay_27 : decode cX4_sendWay 27 = .ok (.iload_n 1, 1) := by decide +kernel
theorem dX4_sendWay_28 : decode cX4_sendWay 28 = .ok (.iaload, 1) := by decide +kernel
theorem dX4_sendWay_29 : decode cX4_sendWay 29 = .ok (.getstatic 99, 3) := by decide +kernel
theorem dX4_sendWay_32 : decode cX4_sendWay 32 = .ok (.iload_n 1, 1) := by decide +kernel
theorem dX4_sendWay_33 : decode cX4_sendWay 33 = .ok (.iaload, 1) := by decide +kernel
theorem dX4_sendWay_34 : decode cX4_sendWay 34 = .ok (.invokevirtual 74, 3) := by decide +kernel
theorem dX4_sendWay_37 : decode cX4_sendWay 37 = .ok (.return_, 1) := by decide +kernel
set_option maxRecDepth 20000 in
theorem ggX4_sendRun_X6_slotOfMake : GoodIn wsX4_sendRun wsX6_slotOfMake := goodIn_r _ [7] (by decide +kernel) (by decide +kernel)
set_option maxRecDepth 20000 in
theorem gX4_sendRun_X6_slotOfMake : GoodIn wsX4_sendRun (va_wsS RX4 102 yX6_slotOfMake wsX6_slotOfMake) := goodIn_app (goodIn_of _ (by decide +kernel)) ggX4_sendRun_X6_slotOfMake
set_option maxRecDepth 20000 in
theorem ggX4_sendRun_X6_codeOf : GoodIn wsX4_sendRun wsX6_codeOf := goodIn_ca (goodIn_r _ [11, 12, 30, 31, 32, 33] (by decide +kernel) (by decide +kernel)) (goodIn_sub (fun _ h => List.mem_cons_of_mem _ (List.mem_append_right _ h)) (by decide +kernel))
set_option maxRecDepth 20000 in
theorem gX4_sendRun_X6_codeOf : GoodIn wsX4_sendRun (wsV RX4 108 RX6 yX6_codeOf wsX6_codeOf) := goodIn_app (goodIn_of _ (by decide +kernel)) ggX4_sendRun_X6_codeOf
set_option maxRecDepth 20000 in
theorem ggX4_sendRun_X6_bitsOf : GoodIn wsX4_sendRun wsX6_bitsOf := goodIn_ca (goodIn_r _ [16, 17, 30, 31, 32, 33] (by decide +kernel) (by decide +kernel)) (goodIn_sub (fun _ h => List.mem_cons_of_mem _ (List.mem_append_right _ h)) (by decide +kernel))
set_option maxRecDepth 20000 in
theorem gX4_sendRun_X6_bitsOf : GoodIn wsX4_sendRun (wsV RX4 111 RX6 yX6_bitsOf wsX6_bitsOf) := goodIn_app (goodIn_of _ (by decide +kernel)) ggX4_sendRun_X6_bitsOf
set_option maxRecDepth 20000 in
theorem ggX4_sendRun_X1_send : GoodIn wsX4_sendRun wsX1_send := goodIn_ca (goodIn_r _ [22, 23, 24, 34, 35] (by decide +kernel) (by decide +kernel)) (goodIn_sub (fun _ h => List.mem_cons_of_mem _ (List.mem_append_right _ h)) (by decide +kernel))
set_option maxRecDepth 20000 in
theorem gX4_sendRun_X1_send : GoodIn wsX4_sendRun (wsV RX4 74 RX1 yX1_send wsX1_send) := goodIn_app (goodIn_of _ (by decide +kernel)) ggX4_sendRun_X1_send
theorem dX4_sendRun_0 : decode cX4_sendRun 0 = .ok (.iload_n 2, 1) := by decide +kernel
theorem dX4_sendRun_1 : decode cX4_sendRun 1 = .ok (.ifCond .eq 10, 3) := by decide +kernel
theorem dX4_sendRun_4 : decode cX4_sendRun 4 = .ok (.aload_n 0, 1) := by decide +kernel
theorem dX4_sendRun_5 : decode cX4_sendRun 5 = .ok (.getfield 23, 3) := by decide +kernel
theorem dX4_sendRun_8 : decode cX4_sendRun 8 = .ok (.goto 7, 3) := by decide +kernel
theorem dX4_sendRun_11 : decode cX4_sendRun 11 = .ok (.aload_n 0, 1) := by decide +kernel
theorem dX4_sendRun_12 : decode cX4_sendRun 12 = .ok (.getfield 19, 3) := by decide +kernel
theorem dX4_sendRun_15 : decode cX4_sendRun 15 = .ok (.astore_n 3, 1) := by decide +kernel
theorem dX4_sendRun_16 : decode cX4_sendRun 16 = .ok (.iload_n 1, 1) := by decide +kernel
theorem dX4_sendRun_17 : decode cX4_sendRun 17 = .ok (.bipush 64, 2) := by decide +kernel
theorem dX4_sendRun_19 : decode cX4_sendRun 19 = .ok (.if_icmp .lt 28, 3) := by decide +kernel
theorem dX4_sendRun_22 : decode cX4_sendRun 22 = .ok (.iload_n 1, 1) := by decide +kernel
theorem dX4_sendRun_23 : decode cX4_sendRun 23 = .ok (.invokestatic 102, 3) := by decide +kernel
theorem dX4_sendRun_26 : decode cX4_sendRun 26 = .ok (.istore 4, 2) := by decide +kernel
theorem dX4_sendRun_28 : decode cX4_sendRun 28 = .ok (.aload_n 0, 1) := by decide +kernel
theorem dX4_sendRun_29 : decode cX4_sendRun 29 = .ok (.getfield 26, 3) := by decide +kernel
theorem dX4_sendRun_32 : decode cX4_sendRun 32 = .ok (.aload_n 3, 1) := by decide +kernel
theorem dX4_sendRun_33 : decode cX4_sendRun 33 = .ok (.iload 4, 2) := by decide +kernel
theorem dX4_sendRun_35 : decode cX4_sendRun 35 = .ok (.invokevirtual 108, 3) := by decide +kernel
theorem dX4_sendRun_38 : decode cX4_sendRun 38 = .ok (.aload_n 3, 1) := by decide +kernel
theorem dX4_sendRun_39 : decode cX4_sendRun 39 = .ok (.iload 4, 2) := by decide +kernel
theorem dX4_sendRun_41 : decode cX4_sendRun 41 = .ok (.invokevirtual 111, 3) := by decide +kernel
theorem dX4_sendRun_44 : decode cX4_sendRun 44 = .ok (.invokevirtual 74, 3) := by decide +kernel
theorem dX4_sendRun_47 : decode cX4_sendRun 47 = .ok (.iload_n 1, 1) := by decide +kernel
theorem dX4_sendRun_48 : decode cX4_sendRun 48 = .ok (.bipush 64, 2) := by decide +kernel
theorem dX4_sendRun_50 : decode cX4_sendRun 50 = .ok (.irem, 1) := by decide +kernel
theorem dX4_sendRun_51 : decode cX4_sendRun 51 = .ok (.istore 4, 2) := by decide +kernel
theorem dX4_sendRun_53 : decode cX4_sendRun 53 = .ok (.aload_n 0, 1) := by decide +kernel
theorem dX4_sendRun_54 : decode cX4_sendRun 54 = .ok (.getfield 26, 3) := by decide +kernel
theorem dX4_sendRun_57 : decode cX4_sendRun 57 = .ok (.aload_n 3, 1) := by decide +kernel
theorem dX4_sendRun_58 : decode cX4_sendRun 58 = .ok (.iload 4, 2) := by decide +kernel
theorem dX4_sendRun_60 : decode cX4_sendRun 60 = .ok (.invokevirtual 108, 3) := by decide +kernel
theorem dX4_sendRun_63 : decode cX4_sendRun 63 = .ok (.aload_n 3, 1) := by decide +kernel
theorem dX4_sendRun_64 : decode cX4_sendRun 64 = .ok (.iload 4, 2) := by decide +kernel
theorem dX4_sendRun_66 : decode cX4_sendRun 66 = .ok (.invokevirtual 111, 3) := by decide +kernel
theorem dX4_sendRun_69 : decode cX4_sendRun 69 = .ok (.invokevirtual 74, 3) := by decide +kernel
theorem dX4_sendRun_72 : decode cX4_sendRun 72 = .ok (.return_, 1) := by decide +kernel
end
section
/-! the Sender's words: bits behind bits -/
def cdb (d : Bool) (s : Int) : List Bool := bitsL (codC d s) (lenC d s).toNat
def runB (d : Bool) (n : Int) : List Bool := (if 64 ≤ n then cdb d (63 + n / 64) else []) ++ cdb d (n % 64)
def wayL (w : Int) : List Bool := bitsL (wayC w.toNat) (wayB w.toNat).toNat
def mkB (kd : Int) (pl : Bool) : List Bool := bitsL 1 12 ++ (if kd = 1 then bitsL (b2i pl) 1 else [])
def alB (L : List Bool) (m : Int) : List Bool := bitsL 0 (-((L.length : Int) + m) % 2 ^ 3).toNat
def stB (kd : Int) (mk al : Bool) (L : List Bool) (pl : Bool) : List Bool := if hasMk kd mk then (if al then alB L 12 else []) ++ mkB kd pl else (if al then alB L 0 else [])
def plB (f : Int → Bool) (N : Int) : Nat → Int → Bool → List Bool
  | 0, _, _ => []
  | n + 1, x, d => if x < N then runB d (nxt f N x (!d) - x) ++ plB f N n (nxt f N x (!d)) (!d) else []
theorem plB_ge {f : Int → Bool} {N x : Int} {d : Bool} (n : Nat) (h : N ≤ x) : plB f N n x d = [] := by
  cases n with
  | zero => rfl
  | succ n => rw [plB, if_neg (by omega)]
def drB (f g : Int → Bool) (N : Int) : Nat → Int → Bool → Bool → List Bool
  | 0, _, _, _ => []
  | n + 1, a, d, fi => if a < N then
      (if nxt g N (chC g N (if fi then a else a + 1) (!d)) d < nxt f N a (!d) then wayL 7 ++ drB f g N n (nxt g N (chC g N (if fi then a else a + 1) (!d)) d) d false
       else if chC g N (if fi then a else a + 1) (!d) - 3 ≤ nxt f N a (!d) ∧ nxt f N a (!d) ≤ chC g N (if fi then a else a + 1) (!d) + 3 then wayL (nxt f N a (!d) - chC g N (if fi then a else a + 1) (!d) + 3) ++ drB f g N n (nxt f N a (!d)) (!d) false
       else wayL 8 ++ (runB d (nxt f N a (!d) - a) ++ (runB (!d) (nxt f N (nxt f N a (!d)) d - nxt f N a (!d)) ++ drB f g N n (nxt f N (nxt f N a (!d)) d) d false)))
    else []
theorem drB_ge {f g : Int → Bool} {N a : Int} {d fi : Bool} (n : Nat) (h : N ≤ a) : drB f g N n a d fi = [] := by
  cases n with
  | zero => rfl
  | succ n => rw [drB, if_neg (by omega)]
theorem lenC_rg (d : Bool) (s : Int) : 0 ≤ lenC d s ∧ lenC d s ≤ 12 := by
  unfold lenC
  split
  · have := (tab_rg d s.toNat (by omega)).2.2.1; omega
  · omega
theorem codC_rg (d : Bool) (s : Int) : 0 ≤ codC d s ∧ codC d s < 4096 := by
  unfold codC
  split
  · have := (tab_rg d s.toNat (by omega)).2.2.2; omega
  · omega
theorem cdb_len (d : Bool) (s : Int) : ((cdb d s).length : Int) = lenC d s := by
  have := lenC_rg d s
  rw [cdb, bitsL_len]; omega
theorem way_rg : ∀ j, j < 9 → (1 ≤ wayC j ∧ wayC j ≤ 3) ∧ (1 ≤ wayB j ∧ wayB j ≤ 7) := by decide
theorem c_X1_sendL (l : Launch) (D : va_G) (cy : Nat → ClassId) (tw : Nat → Nat) (a : Nat → Nat) (kd : Int) (co : Int) (mk : Bool) (al : Bool) (dz : Bool) (rd : Bool) (rw : Int) (wo : Nat → BitVec 64) (sa : Nat → Int) (sz : Int) (ps : Int) (bt : Nat → Int) (ou : Nat → Int) (dm : Int) (pl : Bool) (re : Int) (cu : Bool) (v : Int) (n : Int) (L : List Bool) (hL : OR ou L) (hco : 1 ≤ co ∧ co ≤ 700) (h1 : 0 ≤ v ∧ v ≤ 65535) (h2 : 0 ≤ n ∧ n ≤ 16) (h3 : ((L.length : Nat) : Int) + n ≤ 8 * (on co : Int)) : zMet l yX1_send wsX1_send { frames := 0, cells := 0, slots := 0, locals := 0 } D (zT cy) tw (CW cy a kd co mk al dz rd rw wo sa sz ps bt ou ((L.length : Nat) : Int) dm pl re cu) [.ref (a 6), vI v, vI n] 0 0 (S := Nat → Int) (fun _ => none) (fun u => CW cy a kd co mk al dz rd rw wo sa sz ps bt u (((L ++ bitsL v (n : Int).toNat).length : Nat) : Int) dm pl re cu) (fun u => OR u (L ++ bitsL v (n : Int).toNat)) := by
  have hon := on_eq hco.1
  refine zMet_mono (c_X1_send l D cy tw a kd co mk al dz rd rw wo sa sz ps bt ou ((L.length : Nat) : Int) dm pl re cu v n hco h1 h2 (by omega) (OR_clean hL)) (fun _ => sendA ou (L.length : Int) v n.toNat) (fun _ _ => rfl) (fun _ _ => ?_) (fun _ _ => ?_)
  · simp only [List.length_append, bitsL_len]; rw [show ((L.length + n.toNat : Nat) : Int) = (L.length : Int) + n by omega]
  · exact OR_send _ v hL
theorem c_X1_alignForL (l : Launch) (D : va_G) (cy : Nat → ClassId) (tw : Nat → Nat) (a : Nat → Nat) (kd : Int) (co : Int) (mk : Bool) (al : Bool) (dz : Bool) (rd : Bool) (rw : Int) (wo : Nat → BitVec 64) (sa : Nat → Int) (sz : Int) (ps : Int) (bt : Nat → Int) (ou : Nat → Int) (dm : Int) (pl : Bool) (re : Int) (cu : Bool) (m : Int) (L : List Bool) (hL : OR ou L) (hco : 1 ≤ co ∧ co ≤ 700) (h1 : 0 ≤ m ∧ m ≤ 100) (h3 : ((L.length : Nat) : Int) + 7 ≤ 8 * (on co : Int)) : zMet l yX1_alignFor wsX1_alignFor { frames := 1, cells := 0, slots := 0, locals := 26 } D (zT cy) tw (CW cy a kd co mk al dz rd rw wo sa sz ps bt ou ((L.length : Nat) : Int) dm pl re cu) [.ref (a 6), vI m] 0 0 (S := Nat → Int) (fun _ => none) (fun u => CW cy a kd co mk al dz rd rw wo sa sz ps bt u (((L ++ alB L m).length : Nat) : Int) dm pl re cu) (fun u => OR u (L ++ alB L m)) := by
  have hon := on_eq hco.1
  refine zMet_mono (c_X1_alignFor l D cy tw a kd co mk al dz rd rw wo sa sz ps bt ou ((L.length : Nat) : Int) dm pl re cu m hco h1 (by omega) (OR_clean hL)) (fun _ => sendA ou (L.length : Int) 0 (-((L.length : Int) + m) % 2 ^ 3).toNat) (fun _ _ => rfl) (fun _ _ => ?_) (fun _ _ => ?_)
  · simp only [List.length_append, alB, bitsL_len]; rw [Int.natCast_add, Int.toNat_of_nonneg (by omega)]
  · exact OR_send _ 0 hL
theorem kn_X4_sendWay : zKn yX4_sendWay wsX4_sendWay cX4_sendWay 2 (none) 1 := ⟨⟨_, rfl⟩, by decide +kernel, by decide +kernel, by decide +kernel⟩
set_option maxHeartbeats 400000 in
set_option maxRecDepth 100000 in
theorem c_X4_sendWay (l : Launch) (D : va_G) (cy : Nat → ClassId) (tw : Nat → Nat) (a : Nat → Nat) (kd : Int) (co : Int) (mk : Bool) (al : Bool) (dz : Bool) (rd : Bool) (rw : Int) (wo : Nat → BitVec 64) (sa : Nat → Int) (sz : Int) (ps : Int) (bt : Nat → Int) (ou : Nat → Int) (dm : Int) (pl : Bool) (re : Int) (cu : Bool) (w : Int) (L : List Bool) (hL : OR ou L) (hco : 1 ≤ co ∧ co ≤ 700) (hw : 0 ≤ w ∧ w < 9) (hroom : (((L ++ wayL w).length : Nat) : Int) ≤ 8 * (on co : Int)) : zMet l yX4_sendWay wsX4_sendWay { frames := 1, cells := 0, slots := 0, locals := 26 } D (zT cy) tw (CW cy a kd co mk al dz rd rw wo sa sz ps bt ou ((L.length : Nat) : Int) dm pl re cu) [.ref (a 7), vI w] 0 0 (S := Nat → Int) (fun _ => none) (fun u => CW cy a kd co mk al dz rd rw wo sa sz ps bt u (((L ++ wayL w).length : Nat) : Int) dm pl re cu) (fun u => OR u (L ++ wayL w)) := by
  refine z_met (cc := cX4_sendWay) (nL := 2) (ret := none) (by decide +kernel) rfl (Nat.le_of_ble_eq_true rfl) (lv := [(0, .ref (a 7)), (1, vI w)]) rfl ?_
  intro V p_ e_ s_ m_ args_ below_ meth_ c_ A_ C hmn
  have hinX4 : ∀ w ∈ u_ws RX4 TX4 5, w ∈ wsX4_sendWay := by decide +kernel
  have k0 : Cond.fieldLink RX4 26 "FaxFilter$Sender" "out" "LFaxFilter$BitsOut;" ∈ wsX4_sendWay := List.mem_of_getElem? (i := 1) rfl
  have hon := on_eq hco.1
  have hwy := way_rg w.toNat (by omega)
  have hlen : ((wayL w).length : Int) = wayB w.toNat := by rw [wayL, bitsL_len]; omega
  rw [List.length_append] at hroom
  refine z_iload_n C dX4_sendWay_0 1 rfl ?_
  refine z_if_lt C (by omega) (tgt := 37) dX4_sendWay_1 (by decide) (fun c1 => ?_) (fun c1 => ?_)
  · exfalso; omega
  · refine z_iload_n C dX4_sendWay_4 1 rfl ?_
    refine z_stat0X4 C dX4_sendWay_5 ?_
    refine z_statlen0 C dX4_sendWay_8 ?_
    refine z_icmp_ge C (by omega) (by decide) (tgt := 37) dX4_sendWay_9 (by decide) (fun c2 => ?_) (fun c2 => ?_)
    · exfalso; omega
    · refine z_iload_n C dX4_sendWay_12 1 rfl ?_
      refine z_stat1X4 C dX4_sendWay_13 ?_
      refine z_statlen1 C dX4_sendWay_16 ?_
      refine z_icmp_ge C (by omega) (by decide) (tgt := 37) dX4_sendWay_17 (by decide) (fun c3 => ?_) (fun c3 => ?_)
      · exfalso; omega
      · refine z_aload_n C dX4_sendWay_20 0 rfl ?_
        refine z_get C hinX4 (ci := 6) rfl 7 rfl 4 (by decide) k0 rfl (v := .ref (a 6)) rfl dX4_sendWay_21 ?_
        refine z_stat0X4 C dX4_sendWay_24 ?_
        refine z_iload_n C dX4_sendWay_27 1 rfl ?_
        refine z_statld0 C (by omega) (by omega) dX4_sendWay_28 ?_
        refine z_stat1X4 C dX4_sendWay_29 ?_
        refine z_iload_n C dX4_sendWay_32 1 rfl ?_
        refine z_statld1 C (by omega) (by omega) dX4_sendWay_33 ?_
        refine z_callV C (As := [vI (wayC (w).toNat), vI (wayB (w).toNat)]) (st := []) (c_X1_sendL l D cy tw a kd co mk al dz rd rw wo sa sz ps bt ou dm pl re cu (wayC (w).toNat) (wayB (w).toNat) L (hL) (by omega) (by omega) (by omega) (by omega)) gX4_sendWay_X1_send kn_X1_send rfl ⟨rfl, rfl, Nat.le_of_ble_eq_true rfl, Nat.le_of_ble_eq_true rfl⟩ 6 rfl (ci := 3) rfl rfl (Nat.le_of_ble_eq_true rfl) ⟨Nat.le_of_ble_eq_true rfl, Nat.le_of_ble_eq_true rfl⟩ dX4_sendWay_34 (fun u4 hu4 => ?_)
        show V 0 0 (CW cy a kd co mk al dz rd rw wo sa sz ps bt u4 (((L ++ bitsL (wayC (w).toNat) ((wayB (w).toNat) : Int).toNat).length : Nat) : Int) dm pl re cu) [(0, .ref (a 7)), (1, vI w)] [] 37
        refine z_vret C dX4_sendWay_37 u4 ?_ ?_ ?_ (by decide) (by decide)
        · exact rfl
        · have e : L ++ wayL w = (L ++ bitsL (wayC (w).toNat) ((wayB (w).toNat) : Int).toNat) := by rfl
          rw [e]; exact hu4
        · have e : L ++ wayL w = (L ++ bitsL (wayC (w).toNat) ((wayB (w).toNat) : Int).toNat) := by rfl
          rw [e]
theorem kn_X4_sendMark : zKn yX4_sendMark wsX4_sendMark cX4_sendMark 2 (none) 1 := ⟨⟨_, rfl⟩, by decide +kernel, by decide +kernel, by decide +kernel⟩
set_option maxHeartbeats 400000 in
set_option maxRecDepth 100000 in
theorem c_X4_sendMark (l : Launch) (D : va_G) (cy : Nat → ClassId) (tw : Nat → Nat) (a : Nat → Nat) (kd : Int) (co : Int) (mk : Bool) (al : Bool) (dz : Bool) (rd : Bool) (rw : Int) (wo : Nat → BitVec 64) (sa : Nat → Int) (sz : Int) (ps : Int) (bt : Nat → Int) (ou : Nat → Int) (dm : Int) (pl : Bool) (re : Int) (cu : Bool) (w : Bool) (L : List Bool) (hL : OR ou L) (hco : 1 ≤ co ∧ co ≤ 700) (hk : 0 ≤ kd ∧ kd ≤ 2) (hroom : ((L.length : Nat) : Int) + 13 ≤ 8 * (on co : Int)) : zMet l yX4_sendMark wsX4_sendMark { frames := 1, cells := 0, slots := 0, locals := 26 } D (zT cy) tw (CW cy a kd co mk al dz rd rw wo sa sz ps bt ou ((L.length : Nat) : Int) dm pl re cu) [.ref (a 7), vI (b2i w)] 0 0 (S := Nat → Int) (fun _ => none) (fun u => CW cy a kd co mk al dz rd rw wo sa sz ps bt u (((L ++ mkB kd w).length : Nat) : Int) dm pl re cu) (fun u => OR u (L ++ mkB kd w)) := by
  refine z_met (cc := cX4_sendMark) (nL := 2) (ret := none) (by decide +kernel) rfl (Nat.le_of_ble_eq_true rfl) (lv := [(0, .ref (a 7)), (1, vI (b2i w))]) rfl ?_
  intro V p_ e_ s_ m_ args_ below_ meth_ c_ A_ C hmn
  have hinX4 : ∀ w ∈ u_ws RX4 TX4 5, w ∈ wsX4_sendMark := by decide +kernel
  have hinX5 : ∀ w ∈ u_ws RX5 TX5 5, w ∈ wsX4_sendMark := by decide +kernel
  have k0 : Cond.fieldLink RX4 26 "FaxFilter$Sender" "out" "LFaxFilter$BitsOut;" ∈ wsX4_sendMark := List.mem_of_getElem? (i := 1) rfl
  have k1 : Cond.fieldLink RX4 9 "FaxFilter$Sender" "settings" "LFaxFilter$Settings;" ∈ wsX4_sendMark := List.mem_of_getElem? (i := 2) rfl
  have k2 : Cond.fieldLink RX4 41 "FaxFilter$Settings" "kind" "I" ∈ wsX4_sendMark := List.mem_of_getElem? (i := 3) rfl
  have hon := on_eq hco.1
  refine z_aload_n C dX4_sendMark_0 0 rfl ?_
  refine z_get C hinX4 (ci := 6) rfl 7 rfl 4 (by decide) k0 rfl (v := .ref (a 6)) rfl dX4_sendMark_1 ?_
  refine z_iconst C (z := 1) dX4_sendMark_4 ?_
  refine z_bipush C (z := 12) dX4_sendMark_5 (by decide) ?_
  refine z_callV C (As := [vI 1, vI 12]) (st := []) (c_X1_sendL l D cy tw a kd co mk al dz rd rw wo sa sz ps bt ou dm pl re cu 1 12 L (hL) (by omega) (by omega) (by omega) (by omega)) gX4_sendMark_X1_send kn_X1_send rfl ⟨rfl, rfl, Nat.le_of_ble_eq_true rfl, Nat.le_of_ble_eq_true rfl⟩ 6 rfl (ci := 3) rfl rfl (Nat.le_of_ble_eq_true rfl) ⟨Nat.le_of_ble_eq_true rfl, Nat.le_of_ble_eq_true rfl⟩ dX4_sendMark_7 (fun u1 hu1 => ?_)
  show V 0 0 (CW cy a kd co mk al dz rd rw wo sa sz ps bt u1 (((L ++ bitsL 1 (12 : Int).toNat).length : Nat) : Int) dm pl re cu) [(0, .ref (a 7)), (1, vI (b2i w))] [] 10
  refine z_aload_n C dX4_sendMark_10 0 rfl ?_
  refine z_get C hinX4 (ci := 6) rfl 7 rfl 0 (by decide) k1 rfl (v := .ref (a 1)) rfl dX4_sendMark_11 ?_
  refine z_get C hinX5 (ci := 7) rfl 1 rfl 0 (by decide) k2 rfl (v := vI kd) rfl dX4_sendMark_14 ?_
  refine z_iconst C (z := 1) dX4_sendMark_17 ?_
  refine z_icmp_ne C (by omega) (by decide) (tgt := 38) dX4_sendMark_18 (by decide) (fun c2 => ?_) (fun c2 => ?_)
  · refine z_vret C dX4_sendMark_38 u1 ?_ ?_ ?_ (by decide) (by decide)
    · exact rfl
    · have e : L ++ mkB kd w = (L ++ bitsL 1 (12 : Int).toNat) := by rw [mkB, if_neg (by omega), List.append_nil]; rfl
      rw [e]; exact hu1
    · have e : L ++ mkB kd w = (L ++ bitsL 1 (12 : Int).toNat) := by rw [mkB, if_neg (by omega), List.append_nil]; rfl
      rw [e]
  · refine z_aload_n C dX4_sendMark_21 0 rfl ?_
    refine z_get C hinX4 (ci := 6) rfl 7 rfl 4 (by decide) k0 rfl (v := .ref (a 6)) rfl dX4_sendMark_22 ?_
    refine z_iload_n C dX4_sendMark_25 1 rfl ?_
    refine z_ifz C (tgt := 33) dX4_sendMark_26 (by decide) (fun cw => ?_) (fun cw => ?_)
    · refine z_iconst C (z := 0) dX4_sendMark_33 ?_
      refine z_iconst C (z := 1) dX4_sendMark_34 ?_
      refine z_callV C (As := [vI 0, vI 1]) (st := []) (c_X1_sendL l D cy tw a kd co mk al dz rd rw wo sa sz ps bt u1 dm pl re cu 0 1 (L ++ bitsL 1 (12 : Int).toNat) (hu1) (by omega) (by omega) (by omega) (by simp only [List.length_append, bitsL_len]; omega)) gX4_sendMark_X1_send kn_X1_send rfl ⟨rfl, rfl, Nat.le_of_ble_eq_true rfl, Nat.le_of_ble_eq_true rfl⟩ 6 rfl (ci := 3) rfl rfl (Nat.le_of_ble_eq_true rfl) ⟨Nat.le_of_ble_eq_true rfl, Nat.le_of_ble_eq_true rfl⟩ dX4_sendMark_35 (fun u3 hu3 => ?_)
      show V 0 0 (CW cy a kd co mk al dz rd rw wo sa sz ps bt u3 ((((L ++ bitsL 1 (12 : Int).toNat) ++ bitsL 0 (1 : Int).toNat).length : Nat) : Int) dm pl re cu) [(0, .ref (a 7)), (1, vI (b2i w))] [] 38
      refine z_vret C dX4_sendMark_38 u3 ?_ ?_ ?_ (by decide) (by decide)
      · exact rfl
      · have e : L ++ mkB kd w = ((L ++ bitsL 1 (12 : Int).toNat) ++ bitsL 0 (1 : Int).toNat) := by subst cw; rw [mkB, if_pos (by omega), ← List.append_assoc]; rfl
        rw [e]; exact hu3
      · have e : L ++ mkB kd w = ((L ++ bitsL 1 (12 : Int).toNat) ++ bitsL 0 (1 : Int).toNat) := by subst cw; rw [mkB, if_pos (by omega), ← List.append_assoc]; rfl
        rw [e]
    · refine z_iconst C (z := 1) dX4_sendMark_29 ?_
      refine z_goto C (tgt := 34) dX4_sendMark_30 (by decide) ?_
      refine z_iconst C (z := 1) dX4_sendMark_34 ?_
      refine z_callV C (As := [vI 1, vI 1]) (st := []) (c_X1_sendL l D cy tw a kd co mk al dz rd rw wo sa sz ps bt u1 dm pl re cu 1 1 (L ++ bitsL 1 (12 : Int).toNat) (hu1) (by omega) (by omega) (by omega) (by simp only [List.length_append, bitsL_len]; omega)) gX4_sendMark_X1_send kn_X1_send rfl ⟨rfl, rfl, Nat.le_of_ble_eq_true rfl, Nat.le_of_ble_eq_true rfl⟩ 6 rfl (ci := 3) rfl rfl (Nat.le_of_ble_eq_true rfl) ⟨Nat.le_of_ble_eq_true rfl, Nat.le_of_ble_eq_true rfl⟩ dX4_sendMark_35 (fun u4 hu4 => ?_)
      show V 0 0 (CW cy a kd co mk al dz rd rw wo sa sz ps bt u4 ((((L ++ bitsL 1 (12 : Int).toNat) ++ bitsL 1 (1 : Int).toNat).length : Nat) : Int) dm pl re cu) [(0, .ref (a 7)), (1, vI (b2i w))] [] 38
      refine z_vret C dX4_sendMark_38 u4 ?_ ?_ ?_ (by decide) (by decide)
      · exact rfl
      · have e : L ++ mkB kd w = ((L ++ bitsL 1 (12 : Int).toNat) ++ bitsL 1 (1 : Int).toNat) := by subst cw; rw [mkB, if_pos (by omega), ← List.append_assoc]; rfl
        rw [e]; exact hu4
      · have e : L ++ mkB kd w = ((L ++ bitsL 1 (12 : Int).toNat) ++ bitsL 1 (1 : Int).toNat) := by subst cw; rw [mkB, if_pos (by omega), ← List.append_assoc]; rfl
        rw [e]
theorem runB_len (d : Bool) (n : Int) : ((runB d n).length : Int) = (if 64 ≤ n then lenC d (63 + n / 64) else 0) + lenC d (n % 64) := by
  rw [runB, List.length_append, Int.natCast_add, cdb_len]
  split
  · rw [cdb_len]
  · rfl
theorem kn_X4_sendRun : zKn yX4_sendRun wsX4_sendRun cX4_sendRun 5 (none) 2 := ⟨⟨_, rfl⟩, by decide +kernel, by decide +kernel, by decide +kernel⟩
set_option maxHeartbeats 400000 in
set_option maxRecDepth 100000 in
theorem c_X4_sendRun (l : Launch) (D : va_G) (cy : Nat → ClassId) (tw : Nat → Nat) (a : Nat → Nat) (kd : Int) (co : Int) (mk : Bool) (al : Bool) (dz : Bool) (rd : Bool) (rw : Int) (wo : Nat → BitVec 64) (sa : Nat → Int) (sz : Int) (ps : Int) (bt : Nat → Int) (ou : Nat → Int) (dm : Int) (pl : Bool) (re : Int) (cu : Bool) (n : Int) (d : Bool) (L : List Bool) (hL : OR ou L) (hco : 1 ≤ co ∧ co ≤ 700) (hn : 0 ≤ n ∧ n ≤ 767) (hroom : (((L ++ runB d n).length : Nat) : Int) ≤ 8 * (on co : Int)) : zMet l yX4_sendRun wsX4_sendRun { frames := 1, cells := 0, slots := 0, locals := 26 } D (zT cy) tw (CW cy a kd co mk al dz rd rw wo sa sz ps bt ou ((L.length : Nat) : Int) dm pl re cu) [.ref (a 7), vI n, vI (b2i d)] 0 0 (S := Nat → Int) (fun _ => none) (fun u => CW cy a kd co mk al dz rd rw wo sa sz ps bt u (((L ++ runB d n).length : Nat) : Int) dm pl re cu) (fun u => OR u (L ++ runB d n)) := by
  refine z_met (cc := cX4_sendRun) (nL := 5) (ret := none) (by decide +kernel) rfl (Nat.le_of_ble_eq_true rfl) (lv := [(0, .ref (a 7)), (1, vI n), (2, vI (b2i d))]) rfl ?_
  intro V p_ e_ s_ m_ args_ below_ meth_ c_ A_ C hmn
  have hinX4 : ∀ w ∈ u_ws RX4 TX4 5, w ∈ wsX4_sendRun := by decide +kernel
  have k0 : Cond.fieldLink RX4 19 "FaxFilter$Sender" "whiteTable" "LFaxFilter$Table;" ∈ wsX4_sendRun := List.mem_of_getElem? (i := 2) rfl
  have k1 : Cond.fieldLink RX4 26 "FaxFilter$Sender" "out" "LFaxFilter$BitsOut;" ∈ wsX4_sendRun := List.mem_of_getElem? (i := 3) rfl
  have k2 : Cond.fieldLink RX4 23 "FaxFilter$Sender" "darkTable" "LFaxFilter$Table;" ∈ wsX4_sendRun := List.mem_of_getElem? (i := 1) rfl
  have hon := on_eq hco.1
  have hlen := runB_len d n
  rw [List.length_append] at hroom
  refine z_iload_n C dX4_sendRun_0 2 rfl ?_
  refine z_ifz C (tgt := 11) dX4_sendRun_1 (by decide) (fun cd => ?_) (fun cd => ?_)
  · have hl1 := lenC_rg false (63 + n / 64)
    have hl2 := lenC_rg false (n % 64)
    have hc1 := codC_rg false (63 + n / 64)
    have hc2 := codC_rg false (n % 64)
    rw [cd] at hlen hroom
    refine z_aload_n C dX4_sendRun_11 0 rfl ?_
    refine z_get C hinX4 (ci := 6) rfl 7 rfl 2 (by decide) k0 rfl (v := .ref (a 3)) rfl dX4_sendRun_12 ?_
    refine z_astore_n C (lv' := [(3, .ref (a 3)), (0, .ref (a 7)), (1, vI n), (2, vI (b2i d))]) dX4_sendRun_15 rfl (by decide) rfl ?_
    refine z_iload_n C dX4_sendRun_16 2 rfl ?_
    refine z_bipush C (z := 64) dX4_sendRun_17 (by decide) ?_
    refine z_icmp_lt C (by omega) (by decide) (tgt := 47) dX4_sendRun_19 (by decide) (fun c1 => ?_) (fun c1 => ?_)
    · rw [if_neg (by omega)] at hlen
      refine z_iload_n C dX4_sendRun_47 2 rfl ?_
      refine z_bipush C (z := 64) dX4_sendRun_48 (by decide) ?_
      refine z_irem C dX4_sendRun_50 (by omega) (by decide) ?_
      refine z_istore C (lv' := [(4, vI (n % 64)), (3, .ref (a 3)), (0, .ref (a 7)), (1, vI n), (2, vI (b2i d))]) dX4_sendRun_51 (by decide) rfl ?_
      refine z_aload_n C dX4_sendRun_53 2 rfl ?_
      refine z_get C hinX4 (ci := 6) rfl 7 rfl 4 (by decide) k1 rfl (v := .ref (a 6)) rfl dX4_sendRun_54 ?_
      refine z_aload_n C dX4_sendRun_57 1 rfl ?_
      refine z_iload C dX4_sendRun_58 0 rfl ?_
      refine z_callV C (As := [vI (n % 64)]) (st := [.ref (a 6)]) (c_X6_codeOfW l D cy tw a kd co mk al dz rd rw wo sa sz ps bt ou ((L.length : Nat) : Int) dm pl re cu (n % 64)  (by omega)) gX4_sendRun_X6_codeOf kn_X6_codeOf rfl ⟨rfl, rfl, Nat.le_of_ble_eq_true rfl, Nat.le_of_ble_eq_true rfl⟩ 3 rfl (ci := 8) rfl rfl (Nat.le_of_ble_eq_true rfl) ⟨Nat.le_of_ble_eq_true rfl, Nat.le_of_ble_eq_true rfl⟩ dX4_sendRun_60 (fun u2 hu2 => ?_)
      clear hu2; clear u2
      show V 0 0 (CW cy a kd co mk al dz rd rw wo sa sz ps bt ou ((L.length : Nat) : Int) dm pl re cu) [(4, vI (n % 64)), (3, .ref (a 3)), (0, .ref (a 7)), (1, vI n), (2, vI (b2i d))] [vI (codC false (n % 64)), .ref (a 6)] 63
      refine z_aload_n C dX4_sendRun_63 1 rfl ?_
      refine z_iload C dX4_sendRun_64 0 rfl ?_
      refine z_callV C (As := [vI (n % 64)]) (st := [vI (codC false (n % 64)), .ref (a 6)]) (c_X6_bitsOfW l D cy tw a kd co mk al dz rd rw wo sa sz ps bt ou ((L.length : Nat) : Int) dm pl re cu (n % 64)  (by omega)) gX4_sendRun_X6_bitsOf kn_X6_bitsOf rfl ⟨rfl, rfl, Nat.le_of_ble_eq_true rfl, Nat.le_of_ble_eq_true rfl⟩ 3 rfl (ci := 8) rfl rfl (Nat.le_of_ble_eq_true rfl) ⟨Nat.le_of_ble_eq_true rfl, Nat.le_of_ble_eq_true rfl⟩ dX4_sendRun_66 (fun u3 hu3 => ?_)
      clear hu3; clear u3
      show V 0 0 (CW cy a kd co mk al dz rd rw wo sa sz ps bt ou ((L.length : Nat) : Int) dm pl re cu) [(4, vI (n % 64)), (3, .ref (a 3)), (0, .ref (a 7)), (1, vI n), (2, vI (b2i d))] [vI (lenC false (n % 64)), vI (codC false (n % 64)), .ref (a 6)] 69
      refine z_callV C (As := [vI (codC false (n % 64)), vI (lenC false (n % 64))]) (st := []) (c_X1_sendL l D cy tw a kd co mk al dz rd rw wo sa sz ps bt ou dm pl re cu (codC false (n % 64)) (lenC false (n % 64)) L (hL) (by omega) (by omega) (by omega) (by (try simp only [List.length_append, bitsL_len]); omega)) gX4_sendRun_X1_send kn_X1_send rfl ⟨rfl, rfl, Nat.le_of_ble_eq_true rfl, Nat.le_of_ble_eq_true rfl⟩ 6 rfl (ci := 3) rfl rfl (Nat.le_of_ble_eq_true rfl) ⟨Nat.le_of_ble_eq_true rfl, Nat.le_of_ble_eq_true rfl⟩ dX4_sendRun_69 (fun u4 hu4 => ?_)
      show V 0 0 (CW cy a kd co mk al dz rd rw wo sa sz ps bt u4 (((L ++ bitsL (codC false (n % 64)) ((lenC false (n % 64)) : Int).toNat).length : Nat) : Int) dm pl re cu) [(4, vI (n % 64)), (3, .ref (a 3)), (0, .ref (a 7)), (1, vI n), (2, vI (b2i d))] [] 72
      refine z_vret C dX4_sendRun_72 u4 ?_ ?_ ?_ (by decide) (by decide)
      · exact rfl
      · have e : L ++ runB d n = (L ++ bitsL (codC false (n % 64)) ((lenC false (n % 64)) : Int).toNat) := by rw [cd, runB]; first | (rw [if_pos (by omega), ← List.append_assoc]; rfl) | (rw [if_neg (by omega)]; rfl)
        rw [e]; exact hu4
      · have e : L ++ runB d n = (L ++ bitsL (codC false (n % 64)) ((lenC false (n % 64)) : Int).toNat) := by rw [cd, runB]; first | (rw [if_pos (by omega), ← List.append_assoc]; rfl) | (rw [if_neg (by omega)]; rfl)
        rw [e]
    · rw [if_pos (by omega)] at hlen
      refine z_iload_n C dX4_sendRun_22 2 rfl ?_
      refine z_callS C (As := [vI n]) (st := []) (c_X6_slotOfMake l D cy tw a kd co mk al dz rd rw wo sa sz ps bt ou ((L.length : Nat) : Int) dm pl re cu n  (by omega)) gX4_sendRun_X6_slotOfMake kn_X6_slotOfMake ⟨rfl, rfl, Nat.le_of_ble_eq_true rfl, Nat.le_of_ble_eq_true rfl⟩ rfl (Nat.le_of_ble_eq_true rfl) ⟨Nat.le_of_ble_eq_true rfl, Nat.le_of_ble_eq_true rfl⟩ dX4_sendRun_23 (fun u5 hu5 => ?_)
      clear hu5; clear u5
      show V 0 0 (CW cy a kd co mk al dz rd rw wo sa sz ps bt ou ((L.length : Nat) : Int) dm pl re cu) [(3, .ref (a 3)), (0, .ref (a 7)), (1, vI n), (2, vI (b2i d))] [vI (63 + n / 64)] 26
      refine z_istore C (lv' := [(4, vI (63 + n / 64)), (3, .ref (a 3)), (0, .ref (a 7)), (1, vI n), (2, vI (b2i d))]) dX4_sendRun_26 (by decide) rfl ?_
      refine z_aload_n C dX4_sendRun_28 2 rfl ?_
      refine z_get C hinX4 (ci := 6) rfl 7 rfl 4 (by decide) k1 rfl (v := .ref (a 6)) rfl dX4_sendRun_29 ?_
      refine z_aload_n C dX4_sendRun_32 1 rfl ?_
      refine z_iload C dX4_sendRun_33 0 rfl ?_
      refine z_callV C (As := [vI (63 + n / 64)]) (st := [.ref (a 6)]) (c_X6_codeOfW l D cy tw a kd co mk al dz rd rw wo sa sz ps bt ou ((L.length : Nat) : Int) dm pl re cu (63 + n / 64)  (by omega)) gX4_sendRun_X6_codeOf kn_X6_codeOf rfl ⟨rfl, rfl, Nat.le_of_ble_eq_true rfl, Nat.le_of_ble_eq_true rfl⟩ 3 rfl (ci := 8) rfl rfl (Nat.le_of_ble_eq_true rfl) ⟨Nat.le_of_ble_eq_true rfl, Nat.le_of_ble_eq_true rfl⟩ dX4_sendRun_35 (fun u6 hu6 => ?_)
      clear hu6; clear u6
      show V 0 0 (CW cy a kd co mk al dz rd rw wo sa sz ps bt ou ((L.length : Nat) : Int) dm pl re cu) [(4, vI (63 + n / 64)), (3, .ref (a 3)), (0, .ref (a 7)), (1, vI n), (2, vI (b2i d))] [vI (codC false (63 + n / 64)), .ref (a 6)] 38
      refine z_aload_n C dX4_sendRun_38 1 rfl ?_
      refine z_iload C dX4_sendRun_39 0 rfl ?_
      refine z_callV C (As := [vI (63 + n / 64)]) (st := [vI (codC false (63 + n / 64)), .ref (a 6)]) (c_X6_bitsOfW l D cy tw a kd co mk al dz rd rw wo sa sz ps bt ou ((L.length : Nat) : Int) dm pl re cu (63 + n / 64)  (by omega)) gX4_sendRun_X6_bitsOf kn_X6_bitsOf rfl ⟨rfl, rfl, Nat.le_of_ble_eq_true rfl, Nat.le_of_ble_eq_true rfl⟩ 3 rfl (ci := 8) rfl rfl (Nat.le_of_ble_eq_true rfl) ⟨Nat.le_of_ble_eq_true rfl, Nat.le_of_ble_eq_true rfl⟩ dX4_sendRun_41 (fun u7 hu7 => ?_)
      clear hu7; clear u7
      show V 0 0 (CW cy a kd co mk al dz rd rw wo sa sz ps bt ou ((L.length : Nat) : Int) dm pl re cu) [(4, vI (63 + n / 64)), (3, .ref (a 3)), (0, .ref (a 7)), (1, vI n), (2, vI (b2i d))] [vI (lenC false (63 + n / 64)), vI (codC false (63 + n / 64)), .ref (a 6)] 44
      refine z_callV C (As := [vI (codC false (63 + n / 64)), vI (lenC false (63 + n / 64))]) (st := []) (c_X1_sendL l D cy tw a kd co mk al dz rd rw wo sa sz ps bt ou dm pl re cu (codC false (63 + n / 64)) (lenC false (63 + n / 64)) L (hL) (by omega) (by omega) (by omega) (by omega)) gX4_sendRun_X1_send kn_X1_send rfl ⟨rfl, rfl, Nat.le_of_ble_eq_true rfl, Nat.le_of_ble_eq_true rfl⟩ 6 rfl (ci := 3) rfl rfl (Nat.le_of_ble_eq_true rfl) ⟨Nat.le_of_ble_eq_true rfl, Nat.le_of_ble_eq_true rfl⟩ dX4_sendRun_44 (fun u8 hu8 => ?_)
      show V 0 0 (CW cy a kd co mk al dz rd rw wo sa sz ps bt u8 (((L ++ bitsL (codC false (63 + n / 64)) ((lenC false (63 + n / 64)) : Int).toNat).length : Nat) : Int) dm pl re cu) [(4, vI (63 + n / 64)), (3, .ref (a 3)), (0, .ref (a 7)), (1, vI n), (2, vI (b2i d))] [] 47
      refine z_iload_n C dX4_sendRun_47 3 rfl ?_
      refine z_bipush C (z := 64) dX4_sendRun_48 (by decide) ?_
      refine z_irem C dX4_sendRun_50 (by omega) (by decide) ?_
      refine z_istore C (lv' := [(4, vI (n % 64)), (3, .ref (a 3)), (0, .ref (a 7)), (1, vI n), (2, vI (b2i d))]) dX4_sendRun_51 (by decide) rfl ?_
      refine z_aload_n C dX4_sendRun_53 2 rfl ?_
      refine z_get C hinX4 (ci := 6) rfl 7 rfl 4 (by decide) k1 rfl (v := .ref (a 6)) rfl dX4_sendRun_54 ?_
      refine z_aload_n C dX4_sendRun_57 1 rfl ?_
      refine z_iload C dX4_sendRun_58 0 rfl ?_
      refine z_callV C (As := [vI (n % 64)]) (st := [.ref (a 6)]) (c_X6_codeOfW l D cy tw a kd co mk al dz rd rw wo sa sz ps bt u8 (((L ++ bitsL (codC false (63 + n / 64)) ((lenC false (63 + n / 64)) : Int).toNat).length : Nat) : Int) dm pl re cu (n % 64)  (by omega)) gX4_sendRun_X6_codeOf kn_X6_codeOf rfl ⟨rfl, rfl, Nat.le_of_ble_eq_true rfl, Nat.le_of_ble_eq_true rfl⟩ 3 rfl (ci := 8) rfl rfl (Nat.le_of_ble_eq_true rfl) ⟨Nat.le_of_ble_eq_true rfl, Nat.le_of_ble_eq_true rfl⟩ dX4_sendRun_60 (fun u9 hu9 => ?_)
      clear hu9; clear u9
      show V 0 0 (CW cy a kd co mk al dz rd rw wo sa sz ps bt u8 (((L ++ bitsL (codC false (63 + n / 64)) ((lenC false (63 + n / 64)) : Int).toNat).length : Nat) : Int) dm pl re cu) [(4, vI (n % 64)), (3, .ref (a 3)), (0, .ref (a 7)), (1, vI n), (2, vI (b2i d))] [vI (codC false (n % 64)), .ref (a 6)] 63
      refine z_aload_n C dX4_sendRun_63 1 rfl ?_
      refine z_iload C dX4_sendRun_64 0 rfl ?_
      refine z_callV C (As := [vI (n % 64)]) (st := [vI (codC false (n % 64)), .ref (a 6)]) (c_X6_bitsOfW l D cy tw a kd co mk al dz rd rw wo sa sz ps bt u8 (((L ++ bitsL (codC false (63 + n / 64)) ((lenC false (63 + n / 64)) : Int).toNat).length : Nat) : Int) dm pl re cu (n % 64)  (by omega)) gX4_sendRun_X6_bitsOf kn_X6_bitsOf rfl ⟨rfl, rfl, Nat.le_of_ble_eq_true rfl, Nat.le_of_ble_eq_true rfl⟩ 3 rfl (ci := 8) rfl rfl (Nat.le_of_ble_eq_true rfl) ⟨Nat.le_of_ble_eq_true rfl, Nat.le_of_ble_eq_true rfl⟩ dX4_sendRun_66 (fun u10 hu10 => ?_)
      clear hu10; clear u10
      show V 0 0 (CW cy a kd co mk al dz rd rw wo sa sz ps bt u8 (((L ++ bitsL (codC false (63 + n / 64)) ((lenC false (63 + n / 64)) : Int).toNat).length : Nat) : Int) dm pl re cu) [(4, vI (n % 64)), (3, .ref (a 3)), (0, .ref (a 7)), (1, vI n), (2, vI (b2i d))] [vI (lenC false (n % 64)), vI (codC false (n % 64)), .ref (a 6)] 69
      refine z_callV C (As := [vI (codC false (n % 64)), vI (lenC false (n % 64))]) (st := []) (c_X1_sendL l D cy tw a kd co mk al dz rd rw wo sa sz ps bt u8 dm pl re cu (codC false (n % 64)) (lenC false (n % 64)) (L ++ bitsL (codC false (63 + n / 64)) ((lenC false (63 + n / 64)) : Int).toNat) (hu8) (by omega) (by omega) (by omega) (by (try simp only [List.length_append, bitsL_len]); omega)) gX4_sendRun_X1_send kn_X1_send rfl ⟨rfl, rfl, Nat.le_of_ble_eq_true rfl, Nat.le_of_ble_eq_true rfl⟩ 6 rfl (ci := 3) rfl rfl (Nat.le_of_ble_eq_true rfl) ⟨Nat.le_of_ble_eq_true rfl, Nat.le_of_ble_eq_true rfl⟩ dX4_sendRun_69 (fun u11 hu11 => ?_)
      show V 0 0 (CW cy a kd co mk al dz rd rw wo sa sz ps bt u11 ((((L ++ bitsL (codC false (63 + n / 64)) ((lenC false (63 + n / 64)) : Int).toNat) ++ bitsL (codC false (n % 64)) ((lenC false (n % 64)) : Int).toNat).length : Nat) : Int) dm pl re cu) [(4, vI (n % 64)), (3, .ref (a 3)), (0, .ref (a 7)), (1, vI n), (2, vI (b2i d))] [] 72
      refine z_vret C dX4_sendRun_72 u11 ?_ ?_ ?_ (by decide) (by decide)
      · exact rfl
      · have e : L ++ runB d n = ((L ++ bitsL (codC false (63 + n / 64)) ((lenC false (63 + n / 64)) : Int).toNat) ++ bitsL (codC false (n % 64)) ((lenC false (n % 64)) : Int).toNat) := by rw [cd, runB]; first | (rw [if_pos (by omega), ← List.append_assoc]; rfl) | (rw [if_neg (by omega)]; rfl)
        rw [e]; exact hu11
      · have e : L ++ runB d n = ((L ++ bitsL (codC false (63 + n / 64)) ((lenC false (63 + n / 64)) : Int).toNat) ++ bitsL (codC false (n % 64)) ((lenC false (n % 64)) : Int).toNat) := by rw [cd, runB]; first | (rw [if_pos (by omega), ← List.append_assoc]; rfl) | (rw [if_neg (by omega)]; rfl)
        rw [e]
  · have hl1 := lenC_rg true (63 + n / 64)
    have hl2 := lenC_rg true (n % 64)
    have hc1 := codC_rg true (63 + n / 64)
    have hc2 := codC_rg true (n % 64)
    rw [cd] at hlen hroom
    refine z_aload_n C dX4_sendRun_4 0 rfl ?_
    refine z_get C hinX4 (ci := 6) rfl 7 rfl 3 (by decide) k2 rfl (v := .ref (a 4)) rfl dX4_sendRun_5 ?_
    refine z_goto C (tgt := 15) dX4_sendRun_8 (by decide) ?_
    refine z_astore_n C (lv' := [(3, .ref (a 4)), (0, .ref (a 7)), (1, vI n), (2, vI (b2i d))]) dX4_sendRun_15 rfl (by decide) rfl ?_
    refine z_iload_n C dX4_sendRun_16 2 rfl ?_
    refine z_bipush C (z := 64) dX4_sendRun_17 (by decide) ?_
    refine z_icmp_lt C (by omega) (by decide) (tgt := 47) dX4_sendRun_19 (by decide) (fun c12 => ?_) (fun c12 => ?_)
    · rw [if_neg (by omega)] at hlen
      refine z_iload_n C dX4_sendRun_47 2 rfl ?_
      refine z_bipush C (z := 64) dX4_sendRun_48 (by decide) ?_
      refine z_irem C dX4_sendRun_50 (by omega) (by decide) ?_
      refine z_istore C (lv' := [(4, vI (n % 64)), (3, .ref (a 4)), (0, .ref (a 7)), (1, vI n), (2, vI (b2i d))]) dX4_sendRun_51 (by decide) rfl ?_
      refine z_aload_n C dX4_sendRun_53 2 rfl ?_
      refine z_get C hinX4 (ci := 6) rfl 7 rfl 4 (by decide) k1 rfl (v := .ref (a 6)) rfl dX4_sendRun_54 ?_
      refine z_aload_n C dX4_sendRun_57 1 rfl ?_
      refine z_iload C dX4_sendRun_58 0 rfl ?_
      refine z_callV C (As := [vI (n % 64)]) (st := [.ref (a 6)]) (c_X6_codeOfD l D cy tw a kd co mk al dz rd rw wo sa sz ps bt ou ((L.length : Nat) : Int) dm pl re cu (n % 64)  (by omega)) gX4_sendRun_X6_codeOf kn_X6_codeOf rfl ⟨rfl, rfl, Nat.le_of_ble_eq_true rfl, Nat.le_of_ble_eq_true rfl⟩ 4 rfl (ci := 8) rfl rfl (Nat.le_of_ble_eq_true rfl) ⟨Nat.le_of_ble_eq_true rfl, Nat.le_of_ble_eq_true rfl⟩ dX4_sendRun_60 (fun u13 hu13 => ?_)
      clear hu13; clear u13
      show V 0 0 (CW cy a kd co mk al dz rd rw wo sa sz ps bt ou ((L.length : Nat) : Int) dm pl re cu) [(4, vI (n % 64)), (3, .ref (a 4)), (0, .ref (a 7)), (1, vI n), (2, vI (b2i d))] [vI (codC true (n % 64)), .ref (a 6)] 63
      refine z_aload_n C dX4_sendRun_63 1 rfl ?_
      refine z_iload C dX4_sendRun_64 0 rfl ?_
      refine z_callV C (As := [vI (n % 64)]) (st := [vI (codC true (n % 64)), .ref (a 6)]) (c_X6_bitsOfD l D cy tw a kd co mk al dz rd rw wo sa sz ps bt ou ((L.length : Nat) : Int) dm pl re cu (n % 64)  (by omega)) gX4_sendRun_X6_bitsOf kn_X6_bitsOf rfl ⟨rfl, rfl, Nat.le_of_ble_eq_true rfl, Nat.le_of_ble_eq_true rfl⟩ 4 rfl (ci := 8) rfl rfl (Nat.le_of_ble_eq_true rfl) ⟨Nat.le_of_ble_eq_true rfl, Nat.le_of_ble_eq_true rfl⟩ dX4_sendRun_66 (fun u14 hu14 => ?_)
      clear hu14; clear u14
      show V 0 0 (CW cy a kd co mk al dz rd rw wo sa sz ps bt ou ((L.length : Nat) : Int) dm pl re cu) [(4, vI (n % 64)), (3, .ref (a 4)), (0, .ref (a 7)), (1, vI n), (2, vI (b2i d))] [vI (lenC true (n % 64)), vI (codC true (n % 64)), .ref (a 6)] 69
      refine z_callV C (As := [vI (codC true (n % 64)), vI (lenC true (n % 64))]) (st := []) (c_X1_sendL l D cy tw a kd co mk al dz rd rw wo sa sz ps bt ou dm pl re cu (codC true (n % 64)) (lenC true (n % 64)) L (hL) (by omega) (by omega) (by omega) (by (try simp only [List.length_append, bitsL_len]); omega)) gX4_sendRun_X1_send kn_X1_send rfl ⟨rfl, rfl, Nat.le_of_ble_eq_true rfl, Nat.le_of_ble_eq_true rfl⟩ 6 rfl (ci := 3) rfl rfl (Nat.le_of_ble_eq_true rfl) ⟨Nat.le_of_ble_eq_true rfl, Nat.le_of_ble_eq_true rfl⟩ dX4_sendRun_69 (fun u15 hu15 => ?_)
      show V 0 0 (CW cy a kd co mk al dz rd rw wo sa sz ps bt u15 (((L ++ bitsL (codC true (n % 64)) ((lenC true (n % 64)) : Int).toNat).length : Nat) : Int) dm pl re cu) [(4, vI (n % 64)), (3, .ref (a 4)), (0, .ref (a 7)), (1, vI n), (2, vI (b2i d))] [] 72
      refine z_vret C dX4_sendRun_72 u15 ?_ ?_ ?_ (by decide) (by decide)
      · exact rfl
      · have e : L ++ runB d n = (L ++ bitsL (codC true (n % 64)) ((lenC true (n % 64)) : Int).toNat) := by rw [cd, runB]; first | (rw [if_pos (by omega), ← List.append_assoc]; rfl) | (rw [if_neg (by omega)]; rfl)
        rw [e]; exact hu15
      · have e : L ++ runB d n = (L ++ bitsL (codC true (n % 64)) ((lenC true (n % 64)) : Int).toNat) := by rw [cd, runB]; first | (rw [if_pos (by omega), ← List.append_assoc]; rfl) | (rw [if_neg (by omega)]; rfl)
        rw [e]
    · rw [if_pos (by omega)] at hlen
      refine z_iload_n C dX4_sendRun_22 2 rfl ?_
      refine z_callS C (As := [vI n]) (st := []) (c_X6_slotOfMake l D cy tw a kd co mk al dz rd rw wo sa sz ps bt ou ((L.length : Nat) : Int) dm pl re cu n  (by omega)) gX4_sendRun_X6_slotOfMake kn_X6_slotOfMake ⟨rfl, rfl, Nat.le_of_ble_eq_true rfl, Nat.le_of_ble_eq_true rfl⟩ rfl (Nat.le_of_ble_eq_true rfl) ⟨Nat.le_of_ble_eq_true rfl, Nat.le_of_ble_eq_true rfl⟩ dX4_sendRun_23 (fun u16 hu16 => ?_)
      clear hu16; clear u16
      show V 0 0 (CW cy a kd co mk al dz rd rw wo sa sz ps bt ou ((L.length : Nat) : Int) dm pl re cu) [(3, .ref (a 4)), (0, .ref (a 7)), (1, vI n), (2, vI (b2i d))] [vI (63 + n / 64)] 26
      refine z_istore C (lv' := [(4, vI (63 + n / 64)), (3, .ref (a 4)), (0, .ref (a 7)), (1, vI n), (2, vI (b2i d))]) dX4_sendRun_26 (by decide) rfl ?_
      refine z_aload_n C dX4_sendRun_28 2 rfl ?_
      refine z_get C hinX4 (ci := 6) rfl 7 rfl 4 (by decide) k1 rfl (v := .ref (a 6)) rfl dX4_sendRun_29 ?_
      refine z_aload_n C dX4_sendRun_32 1 rfl ?_
      refine z_iload C dX4_sendRun_33 0 rfl ?_
      refine z_callV C (As := [vI (63 + n / 64)]) (st := [.ref (a 6)]) (c_X6_codeOfD l D cy tw a kd co mk al dz rd rw wo sa sz ps bt ou ((L.length : Nat) : Int) dm pl re cu (63 + n / 64)  (by omega)) gX4_sendRun_X6_codeOf kn_X6_codeOf rfl ⟨rfl, rfl, Nat.le_of_ble_eq_true rfl, Nat.le_of_ble_eq_true rfl⟩ 4 rfl (ci := 8) rfl rfl (Nat.le_of_ble_eq_true rfl) ⟨Nat.le_of_ble_eq_true rfl, Nat.le_of_ble_eq_true rfl⟩ dX4_sendRun_35 (fun u17 hu17 => ?_)
      clear hu17; clear u17
      show V 0 0 (CW cy a kd co mk al dz rd rw wo sa sz ps bt ou ((L.length : Nat) : Int) dm pl re cu) [(4, vI (63 + n / 64)), (3, .ref (a 4)), (0, .ref (a 7)), (1, vI n), (2, vI (b2i d))] [vI (codC true (63 + n / 64)), .ref (a 6)] 38
      refine z_aload_n C dX4_sendRun_38 1 rfl ?_
      refine z_iload C dX4_sendRun_39 0 rfl ?_
      refine z_callV C (As := [vI (63 + n / 64)]) (st := [vI (codC true (63 + n / 64)), .ref (a 6)]) (c_X6_bitsOfD l D cy tw a kd co mk al dz rd rw wo sa sz ps bt ou ((L.length : Nat) : Int) dm pl re cu (63 + n / 64)  (by omega)) gX4_sendRun_X6_bitsOf kn_X6_bitsOf rfl ⟨rfl, rfl, Nat.le_of_ble_eq_true rfl, Nat.le_of_ble_eq_true rfl⟩ 4 rfl (ci := 8) rfl rfl (Nat.le_of_ble_eq_true rfl) ⟨Nat.le_of_ble_eq_true rfl, Nat.le_of_ble_eq_true rfl⟩ dX4_sendRun_41 (fun u18 hu18 => ?_)
      clear hu18; clear u18
      show V 0 0 (CW cy a kd co mk al dz rd rw wo sa sz ps bt ou ((L.length : Nat) : Int) dm pl re cu) [(4, vI (63 + n / 64)), (3, .ref (a 4)), (0, .ref (a 7)), (1, vI n), (2, vI (b2i d))] [vI (lenC true (63 + n / 64)), vI (codC true (63 + n / 64)), .ref (a 6)] 44
      refine z_callV C (As := [vI (codC true (63 + n / 64)), vI (lenC true (63 + n / 64))]) (st := []) (c_X1_sendL l D cy tw a kd co mk al dz rd rw wo sa sz ps bt ou dm pl re cu (codC true (63 + n / 64)) (lenC true (63 + n / 64)) L (hL) (by omega) (by omega) (by omega) (by omega)) gX4_sendRun_X1_send kn_X1_send rfl ⟨rfl, rfl, Nat.le_of_ble_eq_true rfl, Nat.le_of_ble_eq_true rfl⟩ 6 rfl (ci := 3) rfl rfl (Nat.le_of_ble_eq_true rfl) ⟨Nat.le_of_ble_eq_true rfl, Nat.le_of_ble_eq_true rfl⟩ dX4_sendRun_44 (fun u19 hu19 => ?_)
      show V 0 0 (CW cy a kd co mk al dz rd rw wo sa sz ps bt u19 (((L ++ bitsL (codC true (63 + n / 64)) ((lenC true (63 + n / 64)) : Int).toNat).length : Nat) : Int) dm pl re cu) [(4, vI (63 + n / 64)), (3, .ref (a 4)), (0, .ref (a 7)), (1, vI n), (2, vI (b2i d))] [] 47
      refine z_iload_n C dX4_sendRun_47 3 rfl ?_
      refine z_bipush C (z := 64) dX4_sendRun_48 (by decide) ?_
      refine z_irem C dX4_sendRun_50 (by omega) (by decide) ?_
      refine z_istore C (lv' := [(4, vI (n % 64)), (3, .ref (a 4)), (0, .ref (a 7)), (1, vI n), (2, vI (b2i d))]) dX4_sendRun_51 (by decide) rfl ?_
      refine z_aload_n C dX4_sendRun_53 2 rfl ?_
      refine z_get C hinX4 (ci := 6) rfl 7 rfl 4 (by decide) k1 rfl (v := .ref (a 6)) rfl dX4_sendRun_54 ?_
      refine z_aload_n C dX4_sendRun_57 1 rfl ?_
      refine z_iload C dX4_sendRun_58 0 rfl ?_
      refine z_callV C (As := [vI (n % 64)]) (st := [.ref (a 6)]) (c_X6_codeOfD l D cy tw a kd co mk al dz rd rw wo sa sz ps bt u19 (((L ++ bitsL (codC true (63 + n / 64)) ((lenC true (63 + n / 64)) : Int).toNat).length : Nat) : Int) dm pl re cu (n % 64)  (by omega)) gX4_sendRun_X6_codeOf kn_X6_codeOf rfl ⟨rfl, rfl, Nat.le_of_ble_eq_true rfl, Nat.le_of_ble_eq_true rfl⟩ 4 rfl (ci := 8) rfl rfl (Nat.le_of_ble_eq_true rfl) ⟨Nat.le_of_ble_eq_true rfl, Nat.le_of_ble_eq_true rfl⟩ dX4_sendRun_60 (fun u20 hu20 => ?_)
      clear hu20; clear u20
      show V 0 0 (CW cy a kd co mk al dz rd rw wo sa sz ps bt u19 (((L ++ bitsL (codC true (63 + n / 64)) ((lenC true (63 + n / 64)) : Int).toNat).length : Nat) : Int) dm pl re cu) [(4, vI (n % 64)), (3, .ref (a 4)), (0, .ref (a 7)), (1, vI n), (2, vI (b2i d))] [vI (codC true (n % 64)), .ref (a 6)] 63
      refine z_aload_n C dX4_sendRun_63 1 rfl ?_
      refine z_iload C dX4_sendRun_64 0 rfl ?_
      refine z_callV C (As := [vI (n % 64)]) (st := [vI (codC true (n % 64)), .ref (a 6)]) (c_X6_bitsOfD l D cy tw a kd co mk al dz rd rw wo sa sz ps bt u19 (((L ++ bitsL (codC true (63 + n / 64)) ((lenC true (63 + n / 64)) : Int).toNat).length : Nat) : Int) dm pl re cu (n % 64)  (by omega)) gX4_sendRun_X6_bitsOf kn_X6_bitsOf rfl ⟨rfl, rfl, Nat.le_of_ble_eq_true rfl, Nat.le_of_ble_eq_true rfl⟩ 4 rfl (ci := 8) rfl rfl (Nat.le_of_ble_eq_true rfl) ⟨Nat.le_of_ble_eq_true rfl, Nat.le_of_ble_eq_true rfl⟩ dX4_sendRun_66 (fun u21 hu21 => ?_)
      clear hu21; clear u21
      show V 0 0 (CW cy a kd co mk al dz rd rw wo sa sz ps bt u19 (((L ++ bitsL (codC true (63 + n / 64)) ((lenC true (63 + n / 64)) : Int).toNat).length : Nat) : Int) dm pl re cu) [(4, vI (n % 64)), (3, .ref (a 4)), (0, .ref (a 7)), (1, vI n), (2, vI (b2i d))] [vI (lenC true (n % 64)), vI (codC true (n % 64)), .ref (a 6)] 69
      refine z_callV C (As := [vI (codC true (n % 64)), vI (lenC true (n % 64))]) (st := []) (c_X1_sendL l D cy tw a kd co mk al dz rd rw wo sa sz ps bt u19 dm pl re cu (codC true (n % 64)) (lenC true (n % 64)) (L ++ bitsL (codC true (63 + n / 64)) ((lenC true (63 + n / 64)) : Int).toNat) (hu19) (by omega) (by omega) (by omega) (by (try simp only [List.length_append, bitsL_len]); omega)) gX4_sendRun_X1_send kn_X1_send rfl ⟨rfl, rfl, Nat.le_of_ble_eq_true rfl, Nat.le_of_ble_eq_true rfl⟩ 6 rfl (ci := 3) rfl rfl (Nat.le_of_ble_eq_true rfl) ⟨Nat.le_of_ble_eq_true rfl, Nat.le_of_ble_eq_true rfl⟩ dX4_sendRun_69 (fun u22 hu22 => ?_)
      show V 0 0 (CW cy a kd co mk al dz rd rw wo sa sz ps bt u22 ((((L ++ bitsL (codC true (63 + n / 64)) ((lenC true (63 + n / 64)) : Int).toNat) ++ bitsL (codC true (n % 64)) ((lenC true (n % 64)) : Int).toNat).length : Nat) : Int) dm pl re cu) [(4, vI (n % 64)), (3, .ref (a 4)), (0, .ref (a 7)), (1, vI n), (2, vI (b2i d))] [] 72
      refine z_vret C dX4_sendRun_72 u22 ?_ ?_ ?_ (by decide) (by decide)
      · exact rfl
      · have e : L ++ runB d n = ((L ++ bitsL (codC true (63 + n / 64)) ((lenC true (63 + n / 64)) : Int).toNat) ++ bitsL (codC true (n % 64)) ((lenC true (n % 64)) : Int).toNat) := by rw [cd, runB]; first | (rw [if_pos (by omega), ← List.append_assoc]; rfl) | (rw [if_neg (by omega)]; rfl)
        rw [e]; exact hu22
      · have e : L ++ runB d n = ((L ++ bitsL (codC true (63 + n / 64)) ((lenC true (63 + n / 64)) : Int).toNat) ++ bitsL (codC true (n % 64)) ((lenC true (n % 64)) : Int).toNat) := by rw [cd, runB]; first | (rw [if_pos (by omega), ← List.append_assoc]; rfl) | (rw [if_neg (by omega)]; rfl)
        rw [e]
theorem alB_len (L : List Bool) (m : Int) : (alB L m).length ≤ 7 := by rw [alB, bitsL_len]; omega
theorem mkB_len (kd : Int) (pl : Bool) : (mkB kd pl).length = if kd = 1 then 13 else 12 := by
  rw [mkB, List.length_append, bitsL_len]
  split
  · rw [bitsL_len]
  · rfl
theorem kn_X4_sendStart : zKn yX4_sendStart wsX4_sendStart cX4_sendStart 2 (none) 1 := ⟨⟨_, rfl⟩, by decide +kernel, by decide +kernel, by decide +kernel⟩
set_option maxHeartbeats 400000 in
set_option maxRecDepth 100000 in
theorem c_X4_sendStart (l : Launch) (D : va_G) (cy : Nat → ClassId) (tw : Nat → Nat) (a : Nat → Nat) (kd : Int) (co : Int) (mk : Bool) (al : Bool) (dz : Bool) (rd : Bool) (rw : Int) (wo : Nat → BitVec 64) (sa : Nat → Int) (sz : Int) (ps : Int) (bt : Nat → Int) (ou : Nat → Int) (dm : Int) (pl : Bool) (re : Int) (cu : Bool) (w : Bool) (L : List Bool) (hL : OR ou L) (hco : 1 ≤ co ∧ co ≤ 700) (hk : 0 ≤ kd ∧ kd ≤ 2) (hroom : ((L.length : Nat) : Int) + 20 ≤ 8 * (on co : Int)) : zMet l yX4_sendStart wsX4_sendStart { frames := 2, cells := 0, slots := 0, locals := 47 } D (zT cy) tw (CW cy a kd co mk al dz rd rw wo sa sz ps bt ou ((L.length : Nat) : Int) dm pl re cu) [.ref (a 7), vI (b2i w)] 0 0 (S := Nat → Int) (fun _ => none) (fun u => CW cy a kd co mk al dz rd rw wo sa sz ps bt u (((L ++ stB kd mk al L w).length : Nat) : Int) dm pl re cu) (fun u => OR u (L ++ stB kd mk al L w)) := by
  refine z_met (cc := cX4_sendStart) (nL := 2) (ret := none) (by decide +kernel) rfl (Nat.le_of_ble_eq_true rfl) (lv := [(0, .ref (a 7)), (1, vI (b2i w))]) rfl ?_
  intro V p_ e_ s_ m_ args_ below_ meth_ c_ A_ C hmn
  have hinX4 : ∀ w ∈ u_ws RX4 TX4 5, w ∈ wsX4_sendStart := by decide +kernel
  have hinX5 : ∀ w ∈ u_ws RX5 TX5 5, w ∈ wsX4_sendStart := by decide +kernel
  have k0 : Cond.fieldLink RX4 9 "FaxFilter$Sender" "settings" "LFaxFilter$Settings;" ∈ wsX4_sendStart := List.mem_of_getElem? (i := 1) rfl
  have k1 : Cond.fieldLink RX4 64 "FaxFilter$Settings" "aligned" "Z" ∈ wsX4_sendStart := List.mem_of_getElem? (i := 2) rfl
  have k2 : Cond.fieldLink RX4 26 "FaxFilter$Sender" "out" "LFaxFilter$BitsOut;" ∈ wsX4_sendStart := List.mem_of_getElem? (i := 3) rfl
  have hon := on_eq hco.1
  have ha12 := alB_len L 12
  refine z_aload_n C dX4_sendStart_0 0 rfl ?_
  refine z_get C hinX4 (ci := 6) rfl 7 rfl 0 (by decide) k0 rfl (v := .ref (a 1)) rfl dX4_sendStart_1 ?_
  refine z_callV C (As := []) (st := []) (c_X5_hasMarks l D cy tw a kd co mk al dz rd rw wo sa sz ps bt ou ((L.length : Nat) : Int) dm pl re cu   (by omega)) gX4_sendStart_X5_hasMarks kn_X5_hasMarks rfl ⟨rfl, rfl, Nat.le_of_ble_eq_true rfl, Nat.le_of_ble_eq_true rfl⟩ 1 rfl (ci := 7) rfl rfl (Nat.le_of_ble_eq_true rfl) ⟨Nat.le_of_ble_eq_true rfl, Nat.le_of_ble_eq_true rfl⟩ dX4_sendStart_4 (fun u1 hu1 => ?_)
  clear hu1; clear u1
  show V 0 0 (CW cy a kd co mk al dz rd rw wo sa sz ps bt ou ((L.length : Nat) : Int) dm pl re cu) [(0, .ref (a 7)), (1, vI (b2i w))] [vI (b2i (hasMk kd mk))] 7
  refine z_ifnz C (tgt := 29) dX4_sendStart_7 (by decide) (fun cm => ?_) (fun cm => ?_)
  · refine z_aload_n C dX4_sendStart_29 0 rfl ?_
    refine z_get C hinX4 (ci := 6) rfl 7 rfl 0 (by decide) k0 rfl (v := .ref (a 1)) rfl dX4_sendStart_30 ?_
    refine z_get C hinX5 (ci := 7) rfl 1 rfl 2 (by decide) k1 rfl (v := vI (b2i al)) rfl dX4_sendStart_33 ?_
    refine z_ifz C (tgt := 48) dX4_sendStart_36 (by decide) (fun ca => ?_) (fun ca => ?_)
    · refine z_aload_n C dX4_sendStart_48 0 rfl ?_
      refine z_iload_n C dX4_sendStart_49 1 rfl ?_
      refine z_callV C (As := [vI (b2i w)]) (st := []) (c_X4_sendMark l D cy tw a kd co mk al dz rd rw wo sa sz ps bt ou dm pl re cu w L (hL) (by omega) (by omega) (by (try simp only [List.length_append]); omega)) gX4_sendStart_X4_sendMark kn_X4_sendMark rfl ⟨rfl, rfl, Nat.le_of_ble_eq_true rfl, Nat.le_of_ble_eq_true rfl⟩ 7 rfl (ci := 6) rfl rfl (Nat.le_of_ble_eq_true rfl) ⟨Nat.le_of_ble_eq_true rfl, Nat.le_of_ble_eq_true rfl⟩ dX4_sendStart_50 (fun u2 hu2 => ?_)
      show V 0 0 (CW cy a kd co mk al dz rd rw wo sa sz ps bt u2 (((L ++ mkB kd w).length : Nat) : Int) dm pl re cu) [(0, .ref (a 7)), (1, vI (b2i w))] [] 53
      refine z_vret C dX4_sendStart_53 u2 ?_ ?_ ?_ (by decide) (by decide)
      · exact rfl
      · have e : L ++ stB kd mk al L w = (L ++ mkB kd w) := by simp [stB, cm, ca]
        rw [e]; exact hu2
      · have e : L ++ stB kd mk al L w = (L ++ mkB kd w) := by simp [stB, cm, ca]
        rw [e]
    · refine z_aload_n C dX4_sendStart_39 0 rfl ?_
      refine z_get C hinX4 (ci := 6) rfl 7 rfl 4 (by decide) k2 rfl (v := .ref (a 6)) rfl dX4_sendStart_40 ?_
      refine z_bipush C (z := 12) dX4_sendStart_43 (by decide) ?_
      refine z_callV C (As := [vI 12]) (st := []) (c_X1_alignForL l D cy tw a kd co mk al dz rd rw wo sa sz ps bt ou dm pl re cu 12 L (hL) (by omega) (by omega) (by omega)) gX4_sendStart_X1_alignFor kn_X1_alignFor rfl ⟨rfl, rfl, Nat.le_of_ble_eq_true rfl, Nat.le_of_ble_eq_true rfl⟩ 6 rfl (ci := 3) rfl rfl (Nat.le_of_ble_eq_true rfl) ⟨Nat.le_of_ble_eq_true rfl, Nat.le_of_ble_eq_true rfl⟩ dX4_sendStart_45 (fun u3 hu3 => ?_)
      show V 0 0 (CW cy a kd co mk al dz rd rw wo sa sz ps bt u3 (((L ++ alB L 12).length : Nat) : Int) dm pl re cu) [(0, .ref (a 7)), (1, vI (b2i w))] [] 48
      refine z_aload_n C dX4_sendStart_48 0 rfl ?_
      refine z_iload_n C dX4_sendStart_49 1 rfl ?_
      refine z_callV C (As := [vI (b2i w)]) (st := []) (c_X4_sendMark l D cy tw a kd co mk al dz rd rw wo sa sz ps bt u3 dm pl re cu w (L ++ alB L 12) (hu3) (by omega) (by omega) (by (try simp only [List.length_append]); omega)) gX4_sendStart_X4_sendMark kn_X4_sendMark rfl ⟨rfl, rfl, Nat.le_of_ble_eq_true rfl, Nat.le_of_ble_eq_true rfl⟩ 7 rfl (ci := 6) rfl rfl (Nat.le_of_ble_eq_true rfl) ⟨Nat.le_of_ble_eq_true rfl, Nat.le_of_ble_eq_true rfl⟩ dX4_sendStart_50 (fun u4 hu4 => ?_)
      show V 0 0 (CW cy a kd co mk al dz rd rw wo sa sz ps bt u4 ((((L ++ alB L 12) ++ mkB kd w).length : Nat) : Int) dm pl re cu) [(0, .ref (a 7)), (1, vI (b2i w))] [] 53
      refine z_vret C dX4_sendStart_53 u4 ?_ ?_ ?_ (by decide) (by decide)
      · exact rfl
      · have e : L ++ stB kd mk al L w = ((L ++ alB L 12) ++ mkB kd w) := by simp [stB, cm, ca]
        rw [e]; exact hu4
      · have e : L ++ stB kd mk al L w = ((L ++ alB L 12) ++ mkB kd w) := by simp [stB, cm, ca]
        rw [e]
  · refine z_aload_n C dX4_sendStart_10 0 rfl ?_
    refine z_get C hinX4 (ci := 6) rfl 7 rfl 0 (by decide) k0 rfl (v := .ref (a 1)) rfl dX4_sendStart_11 ?_
    refine z_get C hinX5 (ci := 7) rfl 1 rfl 2 (by decide) k1 rfl (v := vI (b2i al)) rfl dX4_sendStart_14 ?_
    refine z_ifz C (tgt := 28) dX4_sendStart_17 (by decide) (fun ca => ?_) (fun ca => ?_)
    · refine z_vret C dX4_sendStart_28 ou ?_ ?_ ?_ (by decide) (by decide)
      · exact rfl
      · have e : L ++ stB kd mk al L w = L := by simp [stB, cm, ca]
        rw [e]; exact hL
      · have e : L ++ stB kd mk al L w = L := by simp [stB, cm, ca]
        rw [e]
    · refine z_aload_n C dX4_sendStart_20 0 rfl ?_
      refine z_get C hinX4 (ci := 6) rfl 7 rfl 4 (by decide) k2 rfl (v := .ref (a 6)) rfl dX4_sendStart_21 ?_
      refine z_iconst C (z := 0) dX4_sendStart_24 ?_
      refine z_callV C (As := [vI 0]) (st := []) (c_X1_alignForL l D cy tw a kd co mk al dz rd rw wo sa sz ps bt ou dm pl re cu 0 L (hL) (by omega) (by omega) (by omega)) gX4_sendStart_X1_alignFor kn_X1_alignFor rfl ⟨rfl, rfl, Nat.le_of_ble_eq_true rfl, Nat.le_of_ble_eq_true rfl⟩ 6 rfl (ci := 3) rfl rfl (Nat.le_of_ble_eq_true rfl) ⟨Nat.le_of_ble_eq_true rfl, Nat.le_of_ble_eq_true rfl⟩ dX4_sendStart_25 (fun u5 hu5 => ?_)
      show V 0 0 (CW cy a kd co mk al dz rd rw wo sa sz ps bt u5 (((L ++ alB L 0).length : Nat) : Int) dm pl re cu) [(0, .ref (a 7)), (1, vI (b2i w))] [] 28
      refine z_vret C dX4_sendStart_28 u5 ?_ ?_ ?_ (by decide) (by decide)
      · exact rfl
      · have e : L ++ stB kd mk al L w = (L ++ alB L 0) := by simp [stB, cm, ca]
        rw [e]; exact hu5
      · have e : L ++ stB kd mk al L w = (L ++ alB L 0) := by simp [stB, cm, ca]
        rw [e]
theorem kn_X4_sendPlain : zKn yX4_sendPlain wsX4_sendPlain cX4_sendPlain 6 (none) 1 := ⟨⟨_, rfl⟩, by decide +kernel, by decide +kernel, by decide +kernel⟩
set_option maxHeartbeats 400000 in
set_option maxRecDepth 100000 in
theorem c_X4_sendPlain (l : Launch) (D : va_G) (cy : Nat → ClassId) (tw : Nat → Nat) (a : Nat → Nat) (kd : Int) (co : Int) (mk : Bool) (al : Bool) (dz : Bool) (rd : Bool) (rw : Int) (wo : Nat → BitVec 64) (sa : Nat → Int) (sz : Int) (ps : Int) (bt : Nat → Int) (ou : Nat → Int) (dm : Int) (pl : Bool) (re : Int) (cu : Bool) (r : Int) (L : List Bool) (hL : OR ou L) (hco : 1 ≤ co ∧ co ≤ 700) (hr : -50 ≤ r ∧ r ≤ 50) (hroom : (((L ++ plB (px wo co r) co (co + 1).toNat 0 false).length : Nat) : Int) ≤ 8 * (on co : Int)) : zMet l yX4_sendPlain wsX4_sendPlain { frames := 3, cells := 0, slots := 0, locals := 75 } D (zT cy) tw (CW cy a kd co mk al dz rd rw wo sa sz ps bt ou ((L.length : Nat) : Int) dm pl re cu) [.ref (a 7), vI r] 0 0 (S := Nat → Int) (fun _ => none) (fun u => CW cy a kd co mk al dz rd rw wo sa sz ps bt u (((L ++ plB (px wo co r) co (co + 1).toNat 0 false).length : Nat) : Int) dm pl re cu) (fun u => OR u (L ++ plB (px wo co r) co (co + 1).toNat 0 false)) := by
  refine z_met (cc := cX4_sendPlain) (nL := 6) (ret := none) (by decide +kernel) rfl (Nat.le_of_ble_eq_true rfl) (lv := [(0, .ref (a 7)), (1, vI r)]) rfl ?_
  intro V p_ e_ s_ m_ args_ below_ meth_ c_ A_ C hmn
  have hinX2 : ∀ w ∈ u_ws RX2 TX2 5, w ∈ wsX4_sendPlain := by decide +kernel
  have hinX4 : ∀ w ∈ u_ws RX4 TX4 5, w ∈ wsX4_sendPlain := by decide +kernel
  have k0 : Cond.fieldLink RX4 15 "FaxFilter$Sender" "picture" "LFaxFilter$Picture;" ∈ wsX4_sendPlain := List.mem_of_getElem? (i := 1) rfl
  have k1 : Cond.fieldLink RX4 78 "FaxFilter$Picture" "columns" "I" ∈ wsX4_sendPlain := List.mem_of_getElem? (i := 2) rfl
  have hon := on_eq hco.1
  refine z_iconst C (z := 0) dX4_sendPlain_0 ?_
  refine z_istore_n C (lv' := [(2, vI 0), (0, .ref (a 7)), (1, vI r)]) dX4_sendPlain_1 rfl (by decide) rfl ?_
  refine z_iconst C (z := 0) dX4_sendPlain_2 ?_
  refine z_istore_n C (lv' := [(3, vI 0), (2, vI 0), (0, .ref (a 7)), (1, vI r)]) dX4_sendPlain_3 rfl (by decide) rfl ?_
  refine z_iconst C (z := 0) dX4_sendPlain_4 ?_
  refine z_istore C (lv' := [(4, vI 0), (3, vI 0), (2, vI 0), (0, .ref (a 7)), (1, vI r)]) dX4_sendPlain_5 (by decide) rfl ?_
  have J7 : ∀ (f : Nat) (x : Int) (d : Bool) (k : Int) (o : Nat → Int) (M : List Bool), 0 ≤ k ∧ k ≤ co + 1 → 0 ≤ x ∧ x ≤ co → OR o M → L ++ plB (px wo co r) co (co + 1).toNat 0 false = M ++ plB (px wo co r) co (co + 1 - k).toNat x d → (co + 1 - k).toNat < f → V 0 0 (CW cy a kd co mk al dz rd rw wo sa sz ps bt o ((M.length : Nat) : Int) dm pl re cu) [(0, .ref (a 7)), (1, vI r), (2, vI x), (3, vI (b2i d)), (4, vI k)] [] 7 := by
    intro f
    induction f with
    | zero => intro x d k o M i0 i1 hM i2 hf; exact absurd hf (Nat.not_lt_zero _)
    | succ f ih =>
      intro x d k o M i0 i1 hM i2 hf
      refine z_iload_n C dX4_sendPlain_7 2 rfl ?_
      refine z_aload_n C dX4_sendPlain_8 0 rfl ?_
      refine z_get C hinX4 (ci := 6) rfl 7 rfl 1 (by decide) k0 rfl (v := .ref (a 2)) rfl dX4_sendPlain_9 ?_
      refine z_get C hinX2 (ci := 4) rfl 2 rfl 0 (by decide) k1 rfl (v := vI co) rfl dX4_sendPlain_12 ?_
      refine z_icmp_ge C (by omega) (by omega) (tgt := 78) dX4_sendPlain_15 (by decide) (fun c1 => ?_) (fun c1 => ?_)
      · refine z_vret C dX4_sendPlain_78 o ?_ ?_ ?_ (by decide) (by decide)
        · exact rfl
        · have e : L ++ plB (px wo co r) co (co + 1).toNat 0 false = M := by rw [i2, plB_ge _ (by omega), List.append_nil]
          rw [e]; exact hM
        · have e : L ++ plB (px wo co r) co (co + 1).toNat 0 false = M := by rw [i2, plB_ge _ (by omega), List.append_nil]
          rw [e]
      · refine z_iload C dX4_sendPlain_18 4 rfl ?_
        refine z_aload_n C dX4_sendPlain_20 0 rfl ?_
        refine z_get C hinX4 (ci := 6) rfl 7 rfl 1 (by decide) k0 rfl (v := .ref (a 2)) rfl dX4_sendPlain_21 ?_
        refine z_get C hinX2 (ci := 4) rfl 2 rfl 0 (by decide) k1 rfl (v := vI co) rfl dX4_sendPlain_24 ?_
        refine z_icmp_gt C (by omega) (by omega) (tgt := 78) dX4_sendPlain_27 (by decide) (fun c2 => ?_) (fun c2 => ?_)
        · refine z_vret C dX4_sendPlain_78 o ?_ ?_ ?_ (by decide) (by decide)
          · exact rfl
          · have e : L ++ plB (px wo co r) co (co + 1).toNat 0 false = M := by rw [i2, show (co + 1 - k).toNat = 0 by omega, plB, List.append_nil]
            rw [e]; exact hM
          · have e : L ++ plB (px wo co r) co (co + 1).toNat 0 false = M := by rw [i2, show (co + 1 - k).toNat = 0 by omega, plB, List.append_nil]
            rw [e]
        · refine z_aload_n C dX4_sendPlain_30 0 rfl ?_
          refine z_get C hinX4 (ci := 6) rfl 7 rfl 1 (by decide) k0 rfl (v := .ref (a 2)) rfl dX4_sendPlain_31 ?_
          refine z_iload_n C dX4_sendPlain_34 1 rfl ?_
          refine z_iload_n C dX4_sendPlain_35 2 rfl ?_
          refine z_iload_n C dX4_sendPlain_36 3 rfl ?_
          refine z_not C dX4_sendPlain_37 dX4_sendPlain_40 dX4_sendPlain_41 dX4_sendPlain_44 ?_
          refine z_callV C (As := [vI r, vI x, vI (b2i (!d))]) (st := []) (c_X2_nextOf l D cy tw a kd co mk al dz rd rw wo sa sz ps bt o ((M.length : Nat) : Int) dm pl re cu r x (!d)  (by omega) (by omega) (by omega)) gX4_sendPlain_X2_nextOf kn_X2_nextOf rfl ⟨rfl, rfl, Nat.le_of_ble_eq_true rfl, Nat.le_of_ble_eq_true rfl⟩ 2 rfl (ci := 4) rfl rfl (Nat.le_of_ble_eq_true rfl) ⟨Nat.le_of_ble_eq_true rfl, Nat.le_of_ble_eq_true rfl⟩ dX4_sendPlain_45 (fun u3 hu3 => ?_)
          clear hu3; clear u3
          show V 0 0 (CW cy a kd co mk al dz rd rw wo sa sz ps bt o ((M.length : Nat) : Int) dm pl re cu) [(0, .ref (a 7)), (1, vI r), (2, vI x), (3, vI (b2i d)), (4, vI k)] [vI (nxt (px wo co r) co x (!d))] 48
          have hh := nxt_rg (px wo co r) co x (!d)
          refine z_istore C (lv' := [(5, vI (nxt (px wo co r) co x (!d))), (0, .ref (a 7)), (1, vI r), (2, vI x), (3, vI (b2i d)), (4, vI k)]) dX4_sendPlain_48 (by decide) rfl ?_
          refine z_aload_n C dX4_sendPlain_50 1 rfl ?_
          refine z_iload C dX4_sendPlain_51 0 rfl ?_
          refine z_iload_n C dX4_sendPlain_53 3 rfl ?_
          refine z_isub C dX4_sendPlain_54 ?_
          refine z_iload_n C dX4_sendPlain_55 4 rfl ?_
          refine z_callV C (As := [vI ((nxt (px wo co r) co x (!d)) - x), vI (b2i d)]) (st := []) (c_X4_sendRun l D cy tw a kd co mk al dz rd rw wo sa sz ps bt o dm pl re cu ((nxt (px wo co r) co x (!d)) - x) d M (hM) (by omega) (by omega) (by have q := congrArg List.length i2; rw [show (co + 1 - k).toNat = (co + 1 - (k + 1)).toNat + 1 by omega, plB, if_pos (by omega)] at q; simp only [List.length_append] at *; omega)) gX4_sendPlain_X4_sendRun kn_X4_sendRun rfl ⟨rfl, rfl, Nat.le_of_ble_eq_true rfl, Nat.le_of_ble_eq_true rfl⟩ 7 rfl (ci := 6) rfl rfl (Nat.le_of_ble_eq_true rfl) ⟨Nat.le_of_ble_eq_true rfl, Nat.le_of_ble_eq_true rfl⟩ dX4_sendPlain_56 (fun u4 hu4 => ?_)
          show V 0 0 (CW cy a kd co mk al dz rd rw wo sa sz ps bt u4 (((M ++ runB d ((nxt (px wo co r) co x (!d)) - x)).length : Nat) : Int) dm pl re cu) [(5, vI (nxt (px wo co r) co x (!d))), (0, .ref (a 7)), (1, vI r), (2, vI x), (3, vI (b2i d)), (4, vI k)] [] 59
          refine z_iload C dX4_sendPlain_59 0 rfl ?_
          refine z_istore_n C (lv' := [(2, vI (nxt (px wo co r) co x (!d))), (5, vI (nxt (px wo co r) co x (!d))), (0, .ref (a 7)), (1, vI r), (3, vI (b2i d)), (4, vI k)]) dX4_sendPlain_61 rfl (by decide) rfl ?_
          refine z_iload_n C dX4_sendPlain_62 4 rfl ?_
          refine z_not C dX4_sendPlain_63 dX4_sendPlain_66 dX4_sendPlain_67 dX4_sendPlain_70 ?_
          refine z_istore_n C (lv' := [(3, vI (b2i (!d))), (2, vI (nxt (px wo co r) co x (!d))), (5, vI (nxt (px wo co r) co x (!d))), (0, .ref (a 7)), (1, vI r), (4, vI k)]) dX4_sendPlain_71 rfl (by decide) rfl ?_
          refine z_iinc C (lv' := [(4, vI (k + 1)), (3, vI (b2i (!d))), (2, vI (nxt (px wo co r) co x (!d))), (5, vI (nxt (px wo co r) co x (!d))), (0, .ref (a 7)), (1, vI r)]) dX4_sendPlain_72 5 rfl (by decide) rfl ?_
          refine z_goto C (tgt := 7) dX4_sendPlain_75 (by decide) ?_
          refine z_lsub C [4, 5, 2, 1, 0] rfl ?_
          exact ih (nxt (px wo co r) co x (!d)) (!d) (k + 1) u4 (M ++ runB d ((nxt (px wo co r) co x (!d)) - x)) (by omega) (by omega) (hu4) (by rw [i2, show (co + 1 - k).toNat = (co + 1 - (k + 1)).toNat + 1 by omega, plB, if_pos (by omega), List.append_assoc]) (by omega)
  refine z_lsub C [3, 4, 2, 1, 0] rfl ?_
  exact J7 _ 0 false 0 ou L (by omega) (by omega) (hL) (by simp) (Nat.lt_succ_self _)
def repM (kd : Int) : Nat → List Bool
  | 0 => []
  | n + 1 => mkB kd true ++ repM kd n
theorem repM_s (kd : Int) : ∀ n, repM kd (n + 1) = repM kd n ++ mkB kd true
  | 0 => by simp [repM]
  | n + 1 => by rw [repM, repM_s kd n, ← List.append_assoc, show mkB kd true ++ repM kd n = repM kd (n + 1) from rfl, repM_s kd n]
theorem repM_len (kd : Int) : ∀ n, (repM kd n).length = n * (if kd = 1 then 13 else 12)
  | 0 => by rw [Nat.zero_mul]; rfl
  | n + 1 => by rw [repM, List.length_append, repM_len kd n, mkB_len, Nat.succ_mul, Nat.add_comm]
def en1 (kd : Int) (al : Bool) (L : List Bool) : List Bool := L ++ (if decide (kd = 2) && al then alB L 0 else [])
def en2 (kd : Int) (mk al : Bool) (L : List Bool) : List Bool := en1 kd al L ++ repM kd (if hasMk kd mk then 6 else if kd = 2 then 2 else 0)
def enB (kd : Int) (mk al : Bool) (L : List Bool) : List Bool := en2 kd mk al L ++ alB (en2 kd mk al L) 0
end
