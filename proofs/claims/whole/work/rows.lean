section
-- ===== PART A: goes FIRST, ahead of the names: the tables' words, and 'selects' of the private methods out of them =====
/-- a private method of a class that the tables say can be made, by its rows of tables_1 -/
def lw_okq (q : MethodName × Nat) : Prop := (q.1.cls ≠ "java/lang/invoke/MethodHandle" ∧ q.1.cls ≠ "java/lang/invoke/VarHandle") ∧ Cond.instantiable q.1.cls q.2 ∈ tables_1 ∧ Cond.privateMethod q.1 ∈ tables_1 ∧ Cond.instanceMethod q.1 ∈ tables_1
theorem lw_p0 : lw_okq (⟨"BedMessages$Frame", "readSegments", "(LBedMessages$Message;)Z"⟩, 1) := ⟨⟨by decide +kernel, by decide +kernel⟩, List.mem_of_getElem? (i := 27) (by decide +kernel), List.mem_of_getElem? (i := 298) (by decide +kernel), List.mem_of_getElem? (i := 299) (by decide +kernel)⟩
theorem lw_p1 : lw_okq (⟨"BedMessages$Frame", "readSegment", "(LBedMessages$Message;II)Z"⟩, 1) := ⟨⟨by decide +kernel, by decide +kernel⟩, List.mem_of_getElem? (i := 27) (by decide +kernel), List.mem_of_getElem? (i := 302) (by decide +kernel), List.mem_of_getElem? (i := 303) (by decide +kernel)⟩
theorem lw_p2 : lw_okq (⟨"BedMessages$Frame", "isName", "(I)Z"⟩, 1) := ⟨⟨by decide +kernel, by decide +kernel⟩, List.mem_of_getElem? (i := 27) (by decide +kernel), List.mem_of_getElem? (i := 306) (by decide +kernel), List.mem_of_getElem? (i := 307) (by decide +kernel)⟩
theorem lw_p3 : lw_okq (⟨"BedMessages$Frame", "readFields", "(LBedMessages$Message;II)Z"⟩, 1) := ⟨⟨by decide +kernel, by decide +kernel⟩, List.mem_of_getElem? (i := 27) (by decide +kernel), List.mem_of_getElem? (i := 321) (by decide +kernel), List.mem_of_getElem? (i := 322) (by decide +kernel)⟩
theorem lw_p4 : lw_okq (⟨"BedMessages$Frame", "escaped", "(LBedMessages$Separators;I)I"⟩, 1) := ⟨⟨by decide +kernel, by decide +kernel⟩, List.mem_of_getElem? (i := 27) (by decide +kernel), List.mem_of_getElem? (i := 330) (by decide +kernel), List.mem_of_getElem? (i := 331) (by decide +kernel)⟩
theorem lw_p5 : lw_okq (⟨"BedMessages", "makeSpareLatest", "()V"⟩, 10) := ⟨⟨by decide +kernel, by decide +kernel⟩, List.mem_of_getElem? (i := 19) (by decide +kernel), List.mem_of_getElem? (i := 410) (by decide +kernel), List.mem_of_getElem? (i := 411) (by decide +kernel)⟩
theorem lw_p6 : lw_okq (⟨"BedMessages$Hospital", "admit", "(LBedMessages$Message;III)I"⟩, 3) := ⟨⟨by decide +kernel, by decide +kernel⟩, List.mem_of_getElem? (i := 54) (by decide +kernel), List.mem_of_getElem? (i := 468) (by decide +kernel), List.mem_of_getElem? (i := 469) (by decide +kernel)⟩
theorem lw_p7 : lw_okq (⟨"BedMessages$Hospital", "putInBed", "(ILBedMessages$Patient;I)V"⟩, 3) := ⟨⟨by decide +kernel, by decide +kernel⟩, List.mem_of_getElem? (i := 54) (by decide +kernel), List.mem_of_getElem? (i := 511) (by decide +kernel), List.mem_of_getElem? (i := 512) (by decide +kernel)⟩
theorem lw_p8 : lw_okq (⟨"BedMessages$Hospital", "move", "(II)I"⟩, 3) := ⟨⟨by decide +kernel, by decide +kernel⟩, List.mem_of_getElem? (i := 54) (by decide +kernel), List.mem_of_getElem? (i := 529) (by decide +kernel), List.mem_of_getElem? (i := 530) (by decide +kernel)⟩
theorem lw_p9 : lw_okq (⟨"BedMessages$Hospital", "emptyBedOf", "(LBedMessages$Patient;)V"⟩, 3) := ⟨⟨by decide +kernel, by decide +kernel⟩, List.mem_of_getElem? (i := 54) (by decide +kernel), List.mem_of_getElem? (i := 533) (by decide +kernel), List.mem_of_getElem? (i := 534) (by decide +kernel)⟩
theorem lw_p10 : lw_okq (⟨"BedMessages$Hospital", "leave", "(I)I"⟩, 3) := ⟨⟨by decide +kernel, by decide +kernel⟩, List.mem_of_getElem? (i := 54) (by decide +kernel), List.mem_of_getElem? (i := 537) (by decide +kernel), List.mem_of_getElem? (i := 538) (by decide +kernel)⟩
theorem lw_p11 : lw_okq (⟨"BedMessages$Hospital", "rename", "(LBedMessages$Message;II)I"⟩, 3) := ⟨⟨by decide +kernel, by decide +kernel⟩, List.mem_of_getElem? (i := 54) (by decide +kernel), List.mem_of_getElem? (i := 541) (by decide +kernel), List.mem_of_getElem? (i := 542) (by decide +kernel)⟩
theorem lw_p12 : lw_okq (⟨"BedMessages$Hospital", "measure", "(LBedMessages$Message;I)I"⟩, 3) := ⟨⟨by decide +kernel, by decide +kernel⟩, List.mem_of_getElem? (i := 54) (by decide +kernel), List.mem_of_getElem? (i := 545) (by decide +kernel), List.mem_of_getElem? (i := 546) (by decide +kernel)⟩
theorem lw_p13 : lw_okq (⟨"BedMessages$Hospital", "tryValues", "(LBedMessages$Message;II)Z"⟩, 3) := ⟨⟨by decide +kernel, by decide +kernel⟩, List.mem_of_getElem? (i := 54) (by decide +kernel), List.mem_of_getElem? (i := 568) (by decide +kernel), List.mem_of_getElem? (i := 569) (by decide +kernel)⟩
theorem lw_p14 : lw_okq (⟨"BedMessages$Measured", "placeOf", "(I)I"⟩, 3) := ⟨⟨by decide +kernel, by decide +kernel⟩, List.mem_of_getElem? (i := 62) (by decide +kernel), List.mem_of_getElem? (i := 576) (by decide +kernel), List.mem_of_getElem? (i := 577) (by decide +kernel)⟩
theorem lw_p15 : lw_okq (⟨"BedMessages", "writeReceipt", "()V"⟩, 10) := ⟨⟨by decide +kernel, by decide +kernel⟩, List.mem_of_getElem? (i := 19) (by decide +kernel), List.mem_of_getElem? (i := 591) (by decide +kernel), List.mem_of_getElem? (i := 592) (by decide +kernel)⟩
def lw_privs_1 : List (MethodName × Nat) := [(⟨"BedMessages$Frame", "readSegments", "(LBedMessages$Message;)Z"⟩, 1), (⟨"BedMessages$Frame", "readSegment", "(LBedMessages$Message;II)Z"⟩, 1), (⟨"BedMessages$Frame", "isName", "(I)Z"⟩, 1), (⟨"BedMessages$Frame", "readFields", "(LBedMessages$Message;II)Z"⟩, 1), (⟨"BedMessages$Frame", "escaped", "(LBedMessages$Separators;I)I"⟩, 1), (⟨"BedMessages", "makeSpareLatest", "()V"⟩, 10), (⟨"BedMessages$Hospital", "admit", "(LBedMessages$Message;III)I"⟩, 3), (⟨"BedMessages$Hospital", "putInBed", "(ILBedMessages$Patient;I)V"⟩, 3), (⟨"BedMessages$Hospital", "move", "(II)I"⟩, 3), (⟨"BedMessages$Hospital", "emptyBedOf", "(LBedMessages$Patient;)V"⟩, 3), (⟨"BedMessages$Hospital", "leave", "(I)I"⟩, 3), (⟨"BedMessages$Hospital", "rename", "(LBedMessages$Message;II)I"⟩, 3), (⟨"BedMessages$Hospital", "measure", "(LBedMessages$Message;I)I"⟩, 3), (⟨"BedMessages$Hospital", "tryValues", "(LBedMessages$Message;II)Z"⟩, 3), (⟨"BedMessages$Measured", "placeOf", "(I)I"⟩, 3), (⟨"BedMessages", "writeReceipt", "()V"⟩, 10)]
theorem lw_r1 : ∀ q ∈ lw_privs_1, lw_okq q := List.forall_mem_cons.mpr ⟨lw_p0, List.forall_mem_cons.mpr ⟨lw_p1, List.forall_mem_cons.mpr ⟨lw_p2, List.forall_mem_cons.mpr ⟨lw_p3, List.forall_mem_cons.mpr ⟨lw_p4, List.forall_mem_cons.mpr ⟨lw_p5, List.forall_mem_cons.mpr ⟨lw_p6, List.forall_mem_cons.mpr ⟨lw_p7, List.forall_mem_cons.mpr ⟨lw_p8, List.forall_mem_cons.mpr ⟨lw_p9, List.forall_mem_cons.mpr ⟨lw_p10, List.forall_mem_cons.mpr ⟨lw_p11, List.forall_mem_cons.mpr ⟨lw_p12, List.forall_mem_cons.mpr ⟨lw_p13, List.forall_mem_cons.mpr ⟨lw_p14, List.forall_mem_cons.mpr ⟨lw_p15, fun _ h => absurd h List.not_mem_nil⟩⟩⟩⟩⟩⟩⟩⟩⟩⟩⟩⟩⟩⟩⟩⟩
theorem lw_p16 : lw_okq (⟨"BedMessages", "writeReceiptField", "(Ljava/lang/String;)V"⟩, 10) := ⟨⟨by decide +kernel, by decide +kernel⟩, List.mem_of_getElem? (i := 19) (by decide +kernel), List.mem_of_getElem? (i := 607) (by decide +kernel), List.mem_of_getElem? (i := 608) (by decide +kernel)⟩
theorem lw_p17 : lw_okq (⟨"BedMessages", "writeReceiptIdentity", "()V"⟩, 10) := ⟨⟨by decide +kernel, by decide +kernel⟩, List.mem_of_getElem? (i := 19) (by decide +kernel), List.mem_of_getElem? (i := 612) (by decide +kernel), List.mem_of_getElem? (i := 613) (by decide +kernel)⟩
theorem lw_p18 : lw_okq (⟨"BedMessagesModel", "reject", "()I"⟩, 34) := ⟨⟨by decide +kernel, by decide +kernel⟩, List.mem_of_getElem? (i := 714) (by decide +kernel), List.mem_of_getElem? (i := 836) (by decide +kernel), List.mem_of_getElem? (i := 837) (by decide +kernel)⟩
theorem lw_p19 : lw_okq (⟨"BedMessagesModel", "begin", "()Z"⟩, 34) := ⟨⟨by decide +kernel, by decide +kernel⟩, List.mem_of_getElem? (i := 714) (by decide +kernel), List.mem_of_getElem? (i := 840) (by decide +kernel), List.mem_of_getElem? (i := 841) (by decide +kernel)⟩
theorem lw_p20 : lw_okq (⟨"BedMessagesModel", "readSeparators", "()Z"⟩, 34) := ⟨⟨by decide +kernel, by decide +kernel⟩, List.mem_of_getElem? (i := 714) (by decide +kernel), List.mem_of_getElem? (i := 844) (by decide +kernel), List.mem_of_getElem? (i := 845) (by decide +kernel)⟩
theorem lw_p21 : lw_okq (⟨"BedMessagesModel", "now", "(I)C"⟩, 34) := ⟨⟨by decide +kernel, by decide +kernel⟩, List.mem_of_getElem? (i := 714) (by decide +kernel), List.mem_of_getElem? (i := 848) (by decide +kernel), List.mem_of_getElem? (i := 849) (by decide +kernel)⟩
theorem lw_p22 : lw_okq (⟨"BedMessagesModel", "apart", "()Z"⟩, 34) := ⟨⟨by decide +kernel, by decide +kernel⟩, List.mem_of_getElem? (i := 714) (by decide +kernel), List.mem_of_getElem? (i := 864) (by decide +kernel), List.mem_of_getElem? (i := 865) (by decide +kernel)⟩
theorem lw_p23 : lw_okq (⟨"BedMessagesModel", "rest", "()Z"⟩, 34) := ⟨⟨by decide +kernel, by decide +kernel⟩, List.mem_of_getElem? (i := 714) (by decide +kernel), List.mem_of_getElem? (i := 868) (by decide +kernel), List.mem_of_getElem? (i := 869) (by decide +kernel)⟩
theorem lw_p24 : lw_okq (⟨"BedMessagesModel", "fields", "()Z"⟩, 34) := ⟨⟨by decide +kernel, by decide +kernel⟩, List.mem_of_getElem? (i := 714) (by decide +kernel), List.mem_of_getElem? (i := 872) (by decide +kernel), List.mem_of_getElem? (i := 873) (by decide +kernel)⟩
theorem lw_p25 : lw_okq (⟨"BedMessagesModel", "escape", "()Z"⟩, 34) := ⟨⟨by decide +kernel, by decide +kernel⟩, List.mem_of_getElem? (i := 714) (by decide +kernel), List.mem_of_getElem? (i := 876) (by decide +kernel), List.mem_of_getElem? (i := 877) (by decide +kernel)⟩
theorem lw_p26 : lw_okq (⟨"BedMessagesModel", "add", "(C)V"⟩, 34) := ⟨⟨by decide +kernel, by decide +kernel⟩, List.mem_of_getElem? (i := 714) (by decide +kernel), List.mem_of_getElem? (i := 880) (by decide +kernel), List.mem_of_getElem? (i := 881) (by decide +kernel)⟩
theorem lw_p27 : lw_okq (⟨"BedMessagesModel", "open", "(IIII)V"⟩, 34) := ⟨⟨by decide +kernel, by decide +kernel⟩, List.mem_of_getElem? (i := 714) (by decide +kernel), List.mem_of_getElem? (i := 887) (by decide +kernel), List.mem_of_getElem? (i := 888) (by decide +kernel)⟩
theorem lw_p28 : lw_okq (⟨"BedMessagesModel", "hasIdentity", "()Z"⟩, 34) := ⟨⟨by decide +kernel, by decide +kernel⟩, List.mem_of_getElem? (i := 714) (by decide +kernel), List.mem_of_getElem? (i := 891) (by decide +kernel), List.mem_of_getElem? (i := 892) (by decide +kernel)⟩
theorem lw_p29 : lw_okq (⟨"BedMessagesModel", "find", "(IIIII)I"⟩, 34) := ⟨⟨by decide +kernel, by decide +kernel⟩, List.mem_of_getElem? (i := 714) (by decide +kernel), List.mem_of_getElem? (i := 895) (by decide +kernel), List.mem_of_getElem? (i := 896) (by decide +kernel)⟩
theorem lw_p30 : lw_okq (⟨"BedMessagesModel", "sizeOf", "(I)I"⟩, 34) := ⟨⟨by decide +kernel, by decide +kernel⟩, List.mem_of_getElem? (i := 714) (by decide +kernel), List.mem_of_getElem? (i := 899) (by decide +kernel), List.mem_of_getElem? (i := 900) (by decide +kernel)⟩
theorem lw_p31 : lw_okq (⟨"BedMessagesModel", "charOf", "(II)C"⟩, 34) := ⟨⟨by decide +kernel, by decide +kernel⟩, List.mem_of_getElem? (i := 714) (by decide +kernel), List.mem_of_getElem? (i := 903) (by decide +kernel), List.mem_of_getElem? (i := 904) (by decide +kernel)⟩
def lw_privs_2 : List (MethodName × Nat) := [(⟨"BedMessages", "writeReceiptField", "(Ljava/lang/String;)V"⟩, 10), (⟨"BedMessages", "writeReceiptIdentity", "()V"⟩, 10), (⟨"BedMessagesModel", "reject", "()I"⟩, 34), (⟨"BedMessagesModel", "begin", "()Z"⟩, 34), (⟨"BedMessagesModel", "readSeparators", "()Z"⟩, 34), (⟨"BedMessagesModel", "now", "(I)C"⟩, 34), (⟨"BedMessagesModel", "apart", "()Z"⟩, 34), (⟨"BedMessagesModel", "rest", "()Z"⟩, 34), (⟨"BedMessagesModel", "fields", "()Z"⟩, 34), (⟨"BedMessagesModel", "escape", "()Z"⟩, 34), (⟨"BedMessagesModel", "add", "(C)V"⟩, 34), (⟨"BedMessagesModel", "open", "(IIII)V"⟩, 34), (⟨"BedMessagesModel", "hasIdentity", "()Z"⟩, 34), (⟨"BedMessagesModel", "find", "(IIIII)I"⟩, 34), (⟨"BedMessagesModel", "sizeOf", "(I)I"⟩, 34), (⟨"BedMessagesModel", "charOf", "(II)C"⟩, 34)]
theorem lw_r2 : ∀ q ∈ lw_privs_2, lw_okq q := List.forall_mem_cons.mpr ⟨lw_p16, List.forall_mem_cons.mpr ⟨lw_p17, List.forall_mem_cons.mpr ⟨lw_p18, List.forall_mem_cons.mpr ⟨lw_p19, List.forall_mem_cons.mpr ⟨lw_p20, List.forall_mem_cons.mpr ⟨lw_p21, List.forall_mem_cons.mpr ⟨lw_p22, List.forall_mem_cons.mpr ⟨lw_p23, List.forall_mem_cons.mpr ⟨lw_p24, List.forall_mem_cons.mpr ⟨lw_p25, List.forall_mem_cons.mpr ⟨lw_p26, List.forall_mem_cons.mpr ⟨lw_p27, List.forall_mem_cons.mpr ⟨lw_p28, List.forall_mem_cons.mpr ⟨lw_p29, List.forall_mem_cons.mpr ⟨lw_p30, List.forall_mem_cons.mpr ⟨lw_p31, fun _ h => absurd h List.not_mem_nil⟩⟩⟩⟩⟩⟩⟩⟩⟩⟩⟩⟩⟩⟩⟩⟩
theorem lw_p32 : lw_okq (⟨"BedMessagesModel", "seen", "()I"⟩, 34) := ⟨⟨by decide +kernel, by decide +kernel⟩, List.mem_of_getElem? (i := 714) (by decide +kernel), List.mem_of_getElem? (i := 907) (by decide +kernel), List.mem_of_getElem? (i := 908) (by decide +kernel)⟩
theorem lw_p33 : lw_okq (⟨"BedMessagesModel", "kind", "()I"⟩, 34) := ⟨⟨by decide +kernel, by decide +kernel⟩, List.mem_of_getElem? (i := 714) (by decide +kernel), List.mem_of_getElem? (i := 911) (by decide +kernel), List.mem_of_getElem? (i := 912) (by decide +kernel)⟩
theorem lw_p34 : lw_okq (⟨"BedMessagesModel", "is", "(ICCC)Z"⟩, 34) := ⟨⟨by decide +kernel, by decide +kernel⟩, List.mem_of_getElem? (i := 714) (by decide +kernel), List.mem_of_getElem? (i := 915) (by decide +kernel), List.mem_of_getElem? (i := 916) (by decide +kernel)⟩
theorem lw_p35 : lw_okq (⟨"BedMessagesModel", "judge", "(I)I"⟩, 34) := ⟨⟨by decide +kernel, by decide +kernel⟩, List.mem_of_getElem? (i := 714) (by decide +kernel), List.mem_of_getElem? (i := 919) (by decide +kernel), List.mem_of_getElem? (i := 920) (by decide +kernel)⟩
theorem lw_p36 : lw_okq (⟨"BedMessagesModel", "segment", "(CCCI)I"⟩, 34) := ⟨⟨by decide +kernel, by decide +kernel⟩, List.mem_of_getElem? (i := 714) (by decide +kernel), List.mem_of_getElem? (i := 923) (by decide +kernel), List.mem_of_getElem? (i := 924) (by decide +kernel)⟩
theorem lw_p37 : lw_okq (⟨"BedMessagesModel", "patientIn", "(I)I"⟩, 34) := ⟨⟨by decide +kernel, by decide +kernel⟩, List.mem_of_getElem? (i := 714) (by decide +kernel), List.mem_of_getElem? (i := 927) (by decide +kernel), List.mem_of_getElem? (i := 928) (by decide +kernel)⟩
theorem lw_p38 : lw_okq (⟨"BedMessagesModel", "number", "(II)I"⟩, 34) := ⟨⟨by decide +kernel, by decide +kernel⟩, List.mem_of_getElem? (i := 714) (by decide +kernel), List.mem_of_getElem? (i := 931) (by decide +kernel), List.mem_of_getElem? (i := 932) (by decide +kernel)⟩
theorem lw_p39 : lw_okq (⟨"BedMessagesModel", "bedIn", "(I)I"⟩, 34) := ⟨⟨by decide +kernel, by decide +kernel⟩, List.mem_of_getElem? (i := 714) (by decide +kernel), List.mem_of_getElem? (i := 935) (by decide +kernel), List.mem_of_getElem? (i := 936) (by decide +kernel)⟩
theorem lw_p40 : lw_okq (⟨"BedMessagesModel", "whoIsIn", "(I)I"⟩, 34) := ⟨⟨by decide +kernel, by decide +kernel⟩, List.mem_of_getElem? (i := 714) (by decide +kernel), List.mem_of_getElem? (i := 939) (by decide +kernel), List.mem_of_getElem? (i := 940) (by decide +kernel)⟩
theorem lw_p41 : lw_okq (⟨"BedMessagesModel", "wrongResults", "()Z"⟩, 34) := ⟨⟨by decide +kernel, by decide +kernel⟩, List.mem_of_getElem? (i := 714) (by decide +kernel), List.mem_of_getElem? (i := 943) (by decide +kernel), List.mem_of_getElem? (i := 944) (by decide +kernel)⟩
theorem lw_p42 : lw_okq (⟨"BedMessagesModel", "codeIn", "(I)I"⟩, 34) := ⟨⟨by decide +kernel, by decide +kernel⟩, List.mem_of_getElem? (i := 714) (by decide +kernel), List.mem_of_getElem? (i := 947) (by decide +kernel), List.mem_of_getElem? (i := 948) (by decide +kernel)⟩
theorem lw_p43 : lw_okq (⟨"BedMessagesModel", "repetitions", "(I)I"⟩, 34) := ⟨⟨by decide +kernel, by decide +kernel⟩, List.mem_of_getElem? (i := 714) (by decide +kernel), List.mem_of_getElem? (i := 951) (by decide +kernel), List.mem_of_getElem? (i := 952) (by decide +kernel)⟩
theorem lw_p44 : lw_okq (⟨"BedMessagesModel", "isNull", "(I)Z"⟩, 34) := ⟨⟨by decide +kernel, by decide +kernel⟩, List.mem_of_getElem? (i := 714) (by decide +kernel), List.mem_of_getElem? (i := 955) (by decide +kernel), List.mem_of_getElem? (i := 956) (by decide +kernel)⟩
theorem lw_p45 : lw_okq (⟨"BedMessagesModel", "tryResults", "(I)Z"⟩, 34) := ⟨⟨by decide +kernel, by decide +kernel⟩, List.mem_of_getElem? (i := 714) (by decide +kernel), List.mem_of_getElem? (i := 959) (by decide +kernel), List.mem_of_getElem? (i := 960) (by decide +kernel)⟩
theorem lw_p46 : lw_okq (⟨"BedMessagesModel", "copyResults", "(II)V"⟩, 34) := ⟨⟨by decide +kernel, by decide +kernel⟩, List.mem_of_getElem? (i := 714) (by decide +kernel), List.mem_of_getElem? (i := 963) (by decide +kernel), List.mem_of_getElem? (i := 964) (by decide +kernel)⟩
theorem lw_p47 : lw_okq (⟨"BedMessagesModel", "tryValue", "(II)Z"⟩, 34) := ⟨⟨by decide +kernel, by decide +kernel⟩, List.mem_of_getElem? (i := 714) (by decide +kernel), List.mem_of_getElem? (i := 967) (by decide +kernel), List.mem_of_getElem? (i := 968) (by decide +kernel)⟩
def lw_privs_3 : List (MethodName × Nat) := [(⟨"BedMessagesModel", "seen", "()I"⟩, 34), (⟨"BedMessagesModel", "kind", "()I"⟩, 34), (⟨"BedMessagesModel", "is", "(ICCC)Z"⟩, 34), (⟨"BedMessagesModel", "judge", "(I)I"⟩, 34), (⟨"BedMessagesModel", "segment", "(CCCI)I"⟩, 34), (⟨"BedMessagesModel", "patientIn", "(I)I"⟩, 34), (⟨"BedMessagesModel", "number", "(II)I"⟩, 34), (⟨"BedMessagesModel", "bedIn", "(I)I"⟩, 34), (⟨"BedMessagesModel", "whoIsIn", "(I)I"⟩, 34), (⟨"BedMessagesModel", "wrongResults", "()Z"⟩, 34), (⟨"BedMessagesModel", "codeIn", "(I)I"⟩, 34), (⟨"BedMessagesModel", "repetitions", "(I)I"⟩, 34), (⟨"BedMessagesModel", "isNull", "(I)Z"⟩, 34), (⟨"BedMessagesModel", "tryResults", "(I)Z"⟩, 34), (⟨"BedMessagesModel", "copyResults", "(II)V"⟩, 34), (⟨"BedMessagesModel", "tryValue", "(II)Z"⟩, 34)]
theorem lw_r3 : ∀ q ∈ lw_privs_3, lw_okq q := List.forall_mem_cons.mpr ⟨lw_p32, List.forall_mem_cons.mpr ⟨lw_p33, List.forall_mem_cons.mpr ⟨lw_p34, List.forall_mem_cons.mpr ⟨lw_p35, List.forall_mem_cons.mpr ⟨lw_p36, List.forall_mem_cons.mpr ⟨lw_p37, List.forall_mem_cons.mpr ⟨lw_p38, List.forall_mem_cons.mpr ⟨lw_p39, List.forall_mem_cons.mpr ⟨lw_p40, List.forall_mem_cons.mpr ⟨lw_p41, List.forall_mem_cons.mpr ⟨lw_p42, List.forall_mem_cons.mpr ⟨lw_p43, List.forall_mem_cons.mpr ⟨lw_p44, List.forall_mem_cons.mpr ⟨lw_p45, List.forall_mem_cons.mpr ⟨lw_p46, List.forall_mem_cons.mpr ⟨lw_p47, fun _ h => absurd h List.not_mem_nil⟩⟩⟩⟩⟩⟩⟩⟩⟩⟩⟩⟩⟩⟩⟩⟩
theorem lw_p48 : lw_okq (⟨"BedMessagesModel", "resultAt", "(II)I"⟩, 34) := ⟨⟨by decide +kernel, by decide +kernel⟩, List.mem_of_getElem? (i := 714) (by decide +kernel), List.mem_of_getElem? (i := 971) (by decide +kernel), List.mem_of_getElem? (i := 972) (by decide +kernel)⟩
theorem lw_p49 : lw_okq (⟨"BedMessagesModel", "act", "(I)V"⟩, 34) := ⟨⟨by decide +kernel, by decide +kernel⟩, List.mem_of_getElem? (i := 714) (by decide +kernel), List.mem_of_getElem? (i := 975) (by decide +kernel), List.mem_of_getElem? (i := 976) (by decide +kernel)⟩
theorem lw_p50 : lw_okq (⟨"BedMessagesModel", "takeName", "(III)V"⟩, 34) := ⟨⟨by decide +kernel, by decide +kernel⟩, List.mem_of_getElem? (i := 714) (by decide +kernel), List.mem_of_getElem? (i := 979) (by decide +kernel), List.mem_of_getElem? (i := 980) (by decide +kernel)⟩
theorem lw_p51 : lw_okq (⟨"BedMessagesModel", "remember", "(I)V"⟩, 34) := ⟨⟨by decide +kernel, by decide +kernel⟩, List.mem_of_getElem? (i := 714) (by decide +kernel), List.mem_of_getElem? (i := 983) (by decide +kernel), List.mem_of_getElem? (i := 984) (by decide +kernel)⟩
theorem lw_p52 : lw_okq (⟨"BedMessagesModel", "write0", "(I)V"⟩, 34) := ⟨⟨by decide +kernel, by decide +kernel⟩, List.mem_of_getElem? (i := 714) (by decide +kernel), List.mem_of_getElem? (i := 987) (by decide +kernel), List.mem_of_getElem? (i := 988) (by decide +kernel)⟩
theorem lw_p53 : lw_okq (⟨"BedMessagesModel", "sayThree", "(CCC)V"⟩, 34) := ⟨⟨by decide +kernel, by decide +kernel⟩, List.mem_of_getElem? (i := 714) (by decide +kernel), List.mem_of_getElem? (i := 991) (by decide +kernel), List.mem_of_getElem? (i := 992) (by decide +kernel)⟩
theorem lw_p54 : lw_okq (⟨"BedMessagesModel", "say", "(C)V"⟩, 34) := ⟨⟨by decide +kernel, by decide +kernel⟩, List.mem_of_getElem? (i := 714) (by decide +kernel), List.mem_of_getElem? (i := 995) (by decide +kernel), List.mem_of_getElem? (i := 996) (by decide +kernel)⟩
theorem lw_p55 : lw_okq (⟨"BedMessagesModel", "sayIdentity", "()V"⟩, 34) := ⟨⟨by decide +kernel, by decide +kernel⟩, List.mem_of_getElem? (i := 714) (by decide +kernel), List.mem_of_getElem? (i := 999) (by decide +kernel), List.mem_of_getElem? (i := 1000) (by decide +kernel)⟩
theorem lw_p56 : lw_okq (⟨"BedMessagesModel", "keep", "()V"⟩, 34) := ⟨⟨by decide +kernel, by decide +kernel⟩, List.mem_of_getElem? (i := 714) (by decide +kernel), List.mem_of_getElem? (i := 1003) (by decide +kernel), List.mem_of_getElem? (i := 1004) (by decide +kernel)⟩
theorem lw_p57 : lw_okq (⟨"BedMessagesModel", "put", "(C)V"⟩, 34) := ⟨⟨by decide +kernel, by decide +kernel⟩, List.mem_of_getElem? (i := 714) (by decide +kernel), List.mem_of_getElem? (i := 1069) (by decide +kernel), List.mem_of_getElem? (i := 1070) (by decide +kernel)⟩
theorem lw_p58 : lw_okq (⟨"BedMessagesModel", "putSegment", "(I)V"⟩, 34) := ⟨⟨by decide +kernel, by decide +kernel⟩, List.mem_of_getElem? (i := 714) (by decide +kernel), List.mem_of_getElem? (i := 1073) (by decide +kernel), List.mem_of_getElem? (i := 1074) (by decide +kernel)⟩
theorem lw_p59 : lw_okq (⟨"BedMessagesModel", "putText", "(C)V"⟩, 34) := ⟨⟨by decide +kernel, by decide +kernel⟩, List.mem_of_getElem? (i := 714) (by decide +kernel), List.mem_of_getElem? (i := 1077) (by decide +kernel), List.mem_of_getElem? (i := 1078) (by decide +kernel)⟩
def lw_privs_4 : List (MethodName × Nat) := [(⟨"BedMessagesModel", "resultAt", "(II)I"⟩, 34), (⟨"BedMessagesModel", "act", "(I)V"⟩, 34), (⟨"BedMessagesModel", "takeName", "(III)V"⟩, 34), (⟨"BedMessagesModel", "remember", "(I)V"⟩, 34), (⟨"BedMessagesModel", "write0", "(I)V"⟩, 34), (⟨"BedMessagesModel", "sayThree", "(CCC)V"⟩, 34), (⟨"BedMessagesModel", "say", "(C)V"⟩, 34), (⟨"BedMessagesModel", "sayIdentity", "()V"⟩, 34), (⟨"BedMessagesModel", "keep", "()V"⟩, 34), (⟨"BedMessagesModel", "put", "(C)V"⟩, 34), (⟨"BedMessagesModel", "putSegment", "(I)V"⟩, 34), (⟨"BedMessagesModel", "putText", "(C)V"⟩, 34)]
theorem lw_r4 : ∀ q ∈ lw_privs_4, lw_okq q := List.forall_mem_cons.mpr ⟨lw_p48, List.forall_mem_cons.mpr ⟨lw_p49, List.forall_mem_cons.mpr ⟨lw_p50, List.forall_mem_cons.mpr ⟨lw_p51, List.forall_mem_cons.mpr ⟨lw_p52, List.forall_mem_cons.mpr ⟨lw_p53, List.forall_mem_cons.mpr ⟨lw_p54, List.forall_mem_cons.mpr ⟨lw_p55, List.forall_mem_cons.mpr ⟨lw_p56, List.forall_mem_cons.mpr ⟨lw_p57, List.forall_mem_cons.mpr ⟨lw_p58, List.forall_mem_cons.mpr ⟨lw_p59, fun _ h => absurd h List.not_mem_nil⟩⟩⟩⟩⟩⟩⟩⟩⟩⟩⟩⟩
def lw_privs : List (MethodName × Nat) := lw_privs_1 ++ (lw_privs_2 ++ (lw_privs_3 ++ (lw_privs_4)))
def lw_tbl : List Cond := k2_sels lw_privs ++ tables_1
theorem lw_privs_ok : ∀ q ∈ lw_privs, lw_okq q := by
  show ∀ q ∈ lw_privs_1 ++ (lw_privs_2 ++ (lw_privs_3 ++ (lw_privs_4))), lw_okq q
  exact List.forall_mem_append.mpr ⟨lw_r1, List.forall_mem_append.mpr ⟨lw_r2, List.forall_mem_append.mpr ⟨lw_r3, lw_r4⟩⟩⟩
end
section
/-! THE PURE MACHINE: values with cell numbers in the place of addresses; cells; steps. Numbers below zK name constants that stand before the start; the i-th cell that is made has the number zK + i. -/
abbrev zC : Type := (Nat × vp_A) ⊕ (Nat × List Value)
abbrev zH : Type := Nat × Nat × (Nat → Option zC)
abbrev zL : Type := List (Option Value)
abbrev zF : Type := Nat × zL × List Value × zH
abbrev zX : Type := Nat × (Nat → Int32) × Value
abbrev zK : Nat := 100
def zv (ad : Nat → Nat) (v : Value) : Value := match v with
  | .ref k => .ref (ad k)
  | .int x => .int x
  | .long x => .long x
  | .float x => .float x
  | .double x => .double x
  | .null => .null
  | .retAddr q => .retAddr q
theorem zv_cat (ad : Nat → Nat) (v : Value) : (zv ad v).category = v.category := by cases v <;> rfl
def zvA (ad : Nat → Nat) (a : vp_A) : vp_A := match a with
  | (n, .inl f) => (n, .inl f)
  | (n, .inr (.inl f)) => (n, .inr (.inl f))
  | (n, .inr (.inr (.inl f))) => (n, .inr (.inr (.inl f)))
  | (n, .inr (.inr (.inr (.inl f)))) => (n, .inr (.inr (.inr (.inl f))))
  | (n, .inr (.inr (.inr (.inr f)))) => (n, .inr (.inr (.inr (.inr (fun j => (f j).map ad)))))
def zE (cA : Nat → ClassId) (ad : Nat → Nat) (c : zC) : va_E := match c with
  | .inl (t, a) => .inl (cA t, zvA ad a)
  | .inr (ci, fs) => .inr (ci, fs.map (zv ad))
def zwr (h : zH) (a : Nat) (c : zC) : zH := (h.1, h.2.1, va_up h.2.2 a (some c))
def znew (h : zH) (n : Nat) (c : zC) : zH := (h.1 + 1, h.2.1 + n, va_up h.2.2 (zK + h.1) (some c))
def zW (D : va_G) (cl : List vw_C) (cA : Nat → ClassId) (ad : Nat → Nat) (base : Nat) (h : zH) (H : Heap) : Prop :=
  H.size = base + h.1 ∧ ∀ (a : Nat) (c : zC), h.2.2 a = some c → zK ≤ a ∧ a < zK + h.1 ∧ ad a = base + (a - zK) ∧ va_at D cl (ad a, zE cA ad c) H
theorem zW.set {D : va_G} {cl : List vw_C} {cA : Nat → ClassId} {ad : Nat → Nat} {base : Nat} {h : zH} {H H1 : Heap} {a : Nat} {c0 c : zC} (hw : zW D cl cA ad base h H) (h0 : h.2.2 a = some c0) (z : H1.size = H.size) (oq : ∀ q : Nat, q ≠ ad a → H1[q]? = H[q]?) (hn : va_at D cl (ad a, zE cA ad c) H1) : zW D cl cA ad base (zwr h a c) H1 := by
  refine ⟨z.trans hw.1, fun b d hb => ?_⟩
  obtain ⟨g1, g2, g3, -⟩ := hw.2 a c0 h0
  by_cases hab : b = a
  · subst hab
    have e : some c = some d := by simpa [zwr, va_up] using hb
    cases e
    exact ⟨g1, g2, g3, hn⟩
  · have hb' : h.2.2 b = some d := by simpa [zwr, va_up, hab] using hb
    obtain ⟨k1, k2, k3, k4⟩ := hw.2 b d hb'
    refine ⟨k1, k2, k3, k4.kept (oq _ ?_)⟩
    show ad b ≠ ad a
    omega
theorem zW.push {D : va_G} {cl : List vw_C} {cA : Nat → ClassId} {ad : Nat → Nat} {base n : Nat} {h : zH} {H H1 : Heap} {c : zC} (hadd : ∀ i, ad (zK + i) = base + i) (hw : zW D cl cA ad base h H) (z : H1.size = H.size + 1) (oq : ∀ q : Nat, q < H.size → H1[q]? = H[q]?) (hn : va_at D cl (H.size, zE cA ad c) H1) : zW D cl cA ad base (znew h n c) H1 := by
  have hs := hw.1
  refine ⟨by rw [z, hs]; show base + h.1 + 1 = base + (h.1 + 1); omega, fun b d hb => ?_⟩
  show zK ≤ b ∧ b < zK + (h.1 + 1) ∧ _
  by_cases hab : b = zK + h.1
  · subst hab
    have e : some c = some d := by simpa [znew, va_up] using hb
    cases e
    refine ⟨by omega, by omega, by rw [hadd]; omega, ?_⟩
    rw [hadd, ← hs]
    exact hn
  · have hb' : h.2.2 b = some d := by simpa [znew, va_up, hab] using hb
    obtain ⟨k1, k2, k3, k4⟩ := hw.2 b d hb'
    refine ⟨k1, by omega, k3, k4.kept (oq _ ?_)⟩
    show ad b < H.size
    omega
/-- locals -/
def zlong (o : Option Value) : Bool := match o with
  | some v => v.category == 2
  | none => false
def zLH (ad : Nat → Nat) (ls : Array Slot) (nL : Nat) (L : zL) : Prop := L.length = nL ∧ ls.size = nL ∧ lv_wf ls ∧ ∀ (i : Nat) (v : Value), L[i]? = some (some v) → ls[i]? = some (.val (zv ad v))
def zll (ad : Nat → Nat) (L : zL) : List (Nat × Value) := (List.range L.length).filterMap (fun i => (L[i]?.join).map (fun v => (i, zv ad v)))
theorem zll_mem {ad : Nat → Nat} {L : zL} {i : Nat} {v : Value} (h : L[i]? = some (some v)) : (i, zv ad v) ∈ zll ad L :=
  List.mem_filterMap.mpr ⟨i, List.mem_range.mpr (List.getElem?_eq_some_iff.mp h).1, by rw [h]; rfl⟩
theorem zLH.has {ad : Nat → Nat} {ls : Array Slot} {nL : Nat} {L : zL} (h : zLH ad ls nL L) : lv_has ls nL (zll ad L) := by
  refine ⟨h.2.1, h.2.2.1, fun q hq => ?_⟩
  obtain ⟨i, -, hi⟩ := List.mem_filterMap.mp hq
  cases e : L[i]? with
  | none => rw [e] at hi; cases hi
  | some o =>
    cases o with
    | none => rw [e] at hi; cases hi
    | some v =>
      rw [e] at hi
      have hq' : (i, zv ad v) = q := Option.some.inj hi
      subst hq'
      exact h.2.2.2 i v e
def zst1 (L : zL) (i : Nat) (v : Value) : Option zL := if i < L.length ∧ (i = 0 ∨ zlong (L.getD (i - 1) none) = false) then some (L.set i (some v)) else none
def zst2 (L : zL) (i : Nat) (v : Value) : Option zL := if i + 1 < L.length ∧ (i = 0 ∨ zlong (L.getD (i - 1) none) = false) then some ((L.set i (some v)).set (i + 1) none) else none
theorem zst1_ok {ad : Nat → Nat} {ls : Array Slot} {nL i : Nat} {L L' : zL} {v : Value} (h : zLH ad ls nL L) (hz : zst1 L i v = some L') : i < nL ∧ ∀ ls' : Array Slot, lv_has ls' nL ((i, zv ad v) :: (zll ad L).filter (fun q => !(q.1 == i) && !(q.1 + 1 == i && q.2.category == 2))) → zLH ad ls' nL L' := by
  unfold zst1 at hz
  split at hz
  · rename_i hc
    cases hz
    refine ⟨h.1 ▸ hc.1, fun ls' h' => ⟨by simp [h.1], h'.1, h'.2.1, fun j w hj => ?_⟩⟩
    by_cases hji : j = i
    · subst hji
      have e : some v = some w := by simpa [hc.1] using hj
      cases e
      exact h'.2.2 _ List.mem_cons_self
    · have hj' : L[j]? = some (some w) := by
        rw [List.getElem?_set_ne (fun q => hji q.symm)] at hj
        exact hj
      refine h'.2.2 (j, zv ad w) (List.mem_cons_of_mem _ (List.mem_filter.mpr ⟨zll_mem hj', ?_⟩))
      have e1 : (j == i) = false := by simpa using hji
      by_cases h2 : j + 1 = i
      · have hcat : zlong (some w) = false := by
          rcases hc.2 with q | q
          · omega
          · have : i - 1 = j := by omega
            rw [this, List.getD_eq_getElem?_getD, hj'] at q
            exact q
        have hcat' : (w.category == 2) = false := hcat
        simp [e1, zv_cat, hcat']
      · simp [e1, h2]
  · cases hz
theorem zst2_ok {ad : Nat → Nat} {ls : Array Slot} {nL i : Nat} {L L' : zL} {v : Value} (h : zLH ad ls nL L) (hz : zst2 L i v = some L') : i + 1 < nL ∧ ∀ ls' : Array Slot, lv_has ls' nL ((i, zv ad v) :: (zll ad L).filter (fun q => !(q.1 == i) && (!(q.1 == i + 1) && !(q.1 + 1 == i && q.2.category == 2)))) → zLH ad ls' nL L' := by
  unfold zst2 at hz
  split at hz
  · rename_i hc
    cases hz
    refine ⟨h.1 ▸ hc.1, fun ls' h' => ⟨by simp [h.1], h'.1, h'.2.1, fun j w hj => ?_⟩⟩
    by_cases hj1 : j = i + 1
    · subst hj1
      simp [hc.1] at hj
    · rw [List.getElem?_set_ne (fun q => hj1 q.symm)] at hj
      by_cases hji : j = i
      · subst hji
        have hlt : j < L.length := by omega
        have e : some v = some w := by simpa [hlt] using hj
        cases e
        exact h'.2.2 _ List.mem_cons_self
      · have hj' : L[j]? = some (some w) := by
          rw [List.getElem?_set_ne (fun q => hji q.symm)] at hj
          exact hj
        refine h'.2.2 (j, zv ad w) (List.mem_cons_of_mem _ (List.mem_filter.mpr ⟨zll_mem hj', ?_⟩))
        have e1 : (j == i) = false := by simpa using hji
        have e2 : (j == i + 1) = false := by simpa using hj1
        by_cases h2 : j + 1 = i
        · have hcat : zlong (some w) = false := by
            rcases hc.2 with q | q
            · omega
            · have : i - 1 = j := by omega
              rw [this, List.getD_eq_getElem?_getD, hj'] at q
              exact q
          have hcat' : (w.category == 2) = false := hcat
          simp [e1, e2, zv_cat, hcat']
        · simp [e1, e2, h2]
  · cases hz
def zfit (ty : FieldType) (v : Value) : Bool := match ty, v with
  | .int, .int _ => true
  | .long, .long _ => true
  | .boolean, .int x => x == 0 || x == 1
  | .object _, .ref _ => true
  | .object _, .null => true
  | .array _, .ref _ => true
  | .array _, .null => true
  | _, _ => false
def zrref (t : Option FieldType) : Bool := match t with
  | some (.object _) => true
  | some (.array _) => true
  | _ => false
theorem zrref_ok {t : Option FieldType} (h : zrref t = true) : ∃ rt, t = some rt ∧ ((∃ n, rt = .object n) ∨ ∃ t, rt = .array t) := by
  unfold zrref at h
  split at h
  · exact ⟨_, rfl, Or.inl ⟨_, rfl⟩⟩
  · exact ⟨_, rfl, Or.inr ⟨_, rfl⟩⟩
  · cases h
end
section
/-! TABLES, by program out of the Statement's words -/
def zT0 : u_T := fun k => match k with
  | 0 => ("BedMessages", "frame", "LBedMessages$Frame;", true)
  | 1 => ("BedMessages", "hospital", "LBedMessages$Hospital;", true)
  | 2 => ("BedMessages", "ledger", "LBedMessages$Ledger;", true)
  | 3 => ("BedMessages", "asked", "LBedMessages$Separators;", true)
  | 4 => ("BedMessages", "receiptText", "LBedMessages$Chars;", true)
  | 5 => ("BedMessages", "writtenText", "LBedMessages$Chars;", true)
  | 6 => ("BedMessages", "spare", "LBedMessages$Message;", false)
  | 7 => ("BedMessages", "latest", "LBedMessages$Message;", false)
  | 8 => ("BedMessages", "latestReason", "I", false)
  | _ => ("BedMessages", "latestReplayed", "Z", false)
def zT1 : u_T := fun k => match k with
  | 0 => ("BedMessages$Chars", "row", "[C", true)
  | _ => ("BedMessages$Chars", "length", "I", false)
def zT2 : u_T := fun k => match k with
  | _ => ("BedMessages$Frame", "typed", "LBedMessages$Chars;", true)
def zT3 : u_T := fun k => match k with
  | 0 => ("BedMessages$Hospital", "occupants", "[I", true)
  | 1 => ("BedMessages$Hospital", "patients", "[LBedMessages$Patient;", true)
  | _ => ("BedMessages$Hospital", "trial", "LBedMessages$Measured;", true)
def zT4 : u_T := fun k => match k with
  | 0 => ("BedMessages$Ledger", "identities", "[J", true)
  | 1 => ("BedMessages$Ledger", "reasons", "[I", true)
  | _ => ("BedMessages$Ledger", "oldest", "I", false)
def zT5 : u_T := fun k => match k with
  | _ => ("BedMessages$Separators", "five", "[I", true)
def zT6 : u_T := fun k => match k with
  | 0 => ("BedMessages$Message", "separators", "LBedMessages$Separators;", true)
  | 1 => ("BedMessages$Message", "signs", "[I", true)
  | 2 => ("BedMessages$Message", "starts", "[I", true)
  | 3 => ("BedMessages$Message", "length", "I", false)
  | _ => ("BedMessages$Message", "segmentCount", "I", false)
def zT7 : u_T := fun k => match k with
  | 0 => ("BedMessages$Measured", "codes", "[I", true)
  | 1 => ("BedMessages$Measured", "values", "[I", true)
  | _ => ("BedMessages$Measured", "count", "I", false)
def zT8 : u_T := fun k => match k with
  | 0 => ("BedMessages$Patient", "family", "LBedMessages$Chars;", true)
  | 1 => ("BedMessages$Patient", "first", "LBedMessages$Chars;", true)
  | 2 => ("BedMessages$Patient", "measured", "LBedMessages$Measured;", true)
  | _ => ("BedMessages$Patient", "bed", "I", false)
def zT9 : u_T := fun k => match k with
  | 0 => ("BedMessagesModel", "size", "I", false)
  | 1 => ("BedMessagesModel", "frame", "[C", true)
  | 2 => ("BedMessagesModel", "at", "I", false)
  | 3 => ("BedMessagesModel", "segs", "[I", true)
  | 4 => ("BedMessagesModel", "texts", "[I", true)
  | 5 => ("BedMessagesModel", "chars", "[I", true)
  | 6 => ("BedMessagesModel", "segOf", "[I", true)
  | 7 => ("BedMessagesModel", "fieldOf", "[I", true)
  | 8 => ("BedMessagesModel", "repOf", "[I", true)
  | 9 => ("BedMessagesModel", "compOf", "[I", true)
  | 10 => ("BedMessagesModel", "subOf", "[I", true)
  | 11 => ("BedMessagesModel", "begins", "[I", true)
  | 12 => ("BedMessagesModel", "lengths", "[I", true)
  | 13 => ("BedMessagesModel", "letters", "[C", true)
  | 14 => ("BedMessagesModel", "names", "[C", true)
  | 15 => ("BedMessagesModel", "separators", "[C", true)
  | 16 => ("BedMessagesModel", "any", "Z", false)
  | 17 => ("BedMessagesModel", "reason0", "I", false)
  | 18 => ("BedMessagesModel", "again", "Z", false)
  | 19 => ("BedMessagesModel", "receiptSize", "I", false)
  | 20 => ("BedMessagesModel", "receiptText", "[C", true)
  | 21 => ("BedMessagesModel", "kept", "I", false)
  | 22 => ("BedMessagesModel", "keptName", "[C", true)
  | 23 => ("BedMessagesModel", "keptReason", "[I", true)
  | 24 => ("BedMessagesModel", "isKnown", "[Z", true)
  | 25 => ("BedMessagesModel", "bedOfPatient", "[I", true)
  | 26 => ("BedMessagesModel", "nameSize", "[I", true)
  | 27 => ("BedMessagesModel", "nameText", "[C", true)
  | 28 => ("BedMessagesModel", "resultCount", "[I", true)
  | 29 => ("BedMessagesModel", "codes", "[I", true)
  | 30 => ("BedMessagesModel", "values", "[I", true)
  | 31 => ("BedMessagesModel", "out", "I", false)
  | 32 => ("BedMessagesModel", "outText", "[C", true)
  | _ => ("BedMessagesModel", "given", "[C", true)
abbrev classes : List vw_C := [("BedMessages", zT0, 10), ("BedMessages$Chars", zT1, 2), ("BedMessages$Frame", zT2, 1), ("BedMessages$Hospital", zT3, 3), ("BedMessages$Ledger", zT4, 3), ("BedMessages$Separators", zT5, 1), ("BedMessages$Message", zT6, 5), ("BedMessages$Measured", zT7, 3), ("BedMessages$Patient", zT8, 4), ("BedMessagesModel", zT9, 34)]
def zty (ci k : Nat) : FieldType := match ci with
  | 0 => (match k with
    | 0 => .object "BedMessages$Frame"
    | 1 => .object "BedMessages$Hospital"
    | 2 => .object "BedMessages$Ledger"
    | 3 => .object "BedMessages$Separators"
    | 4 => .object "BedMessages$Chars"
    | 5 => .object "BedMessages$Chars"
    | 6 => .object "BedMessages$Message"
    | 7 => .object "BedMessages$Message"
    | 8 => .int
    | _ => .boolean)
  | 1 => (match k with
    | 0 => .array .char
    | _ => .int)
  | 2 => (match k with
    | _ => .object "BedMessages$Chars")
  | 3 => (match k with
    | 0 => .array .int
    | 1 => .array (.object "BedMessages$Patient")
    | _ => .object "BedMessages$Measured")
  | 4 => (match k with
    | 0 => .array .long
    | 1 => .array .int
    | _ => .int)
  | 5 => (match k with
    | _ => .array .int)
  | 6 => (match k with
    | 0 => .object "BedMessages$Separators"
    | 1 => .array .int
    | 2 => .array .int
    | 3 => .int
    | _ => .int)
  | 7 => (match k with
    | 0 => .array .int
    | 1 => .array .int
    | _ => .int)
  | 8 => (match k with
    | 0 => .object "BedMessages$Chars"
    | 1 => .object "BedMessages$Chars"
    | 2 => .object "BedMessages$Measured"
    | _ => .int)
  | _ => (match k with
    | 0 => .int
    | 1 => .array .char
    | 2 => .int
    | 3 => .array .int
    | 4 => .array .int
    | 5 => .array .int
    | 6 => .array .int
    | 7 => .array .int
    | 8 => .array .int
    | 9 => .array .int
    | 10 => .array .int
    | 11 => .array .int
    | 12 => .array .int
    | 13 => .array .char
    | 14 => .array .char
    | 15 => .array .char
    | 16 => .boolean
    | 17 => .int
    | 18 => .boolean
    | 19 => .int
    | 20 => .array .char
    | 21 => .int
    | 22 => .array .char
    | 23 => .array .int
    | 24 => .array .boolean
    | 25 => .array .int
    | 26 => .array .int
    | 27 => .array .char
    | 28 => .array .int
    | 29 => .array .int
    | 30 => .array .int
    | 31 => .int
    | 32 => .array .char
    | _ => .array .char)
def zfin (ci k : Nat) : Bool := match ci with
  | 0 => (match k with
    | 0 => true
    | 1 => true
    | 2 => true
    | 3 => true
    | 4 => true
    | 5 => true
    | 6 => false
    | 7 => false
    | 8 => false
    | _ => false)
  | 1 => (match k with
    | 0 => true
    | _ => false)
  | 2 => (match k with
    | _ => true)
  | 3 => (match k with
    | 0 => true
    | 1 => true
    | _ => true)
  | 4 => (match k with
    | 0 => true
    | 1 => true
    | _ => false)
  | 5 => (match k with
    | _ => true)
  | 6 => (match k with
    | 0 => true
    | 1 => true
    | 2 => true
    | 3 => false
    | _ => false)
  | 7 => (match k with
    | 0 => true
    | 1 => true
    | _ => false)
  | 8 => (match k with
    | 0 => true
    | 1 => true
    | 2 => true
    | _ => false)
  | _ => (match k with
    | 0 => false
    | 1 => true
    | 2 => false
    | 3 => true
    | 4 => true
    | 5 => true
    | 6 => true
    | 7 => true
    | 8 => true
    | 9 => true
    | 10 => true
    | 11 => true
    | 12 => true
    | 13 => true
    | 14 => true
    | 15 => true
    | 16 => false
    | 17 => false
    | 18 => false
    | 19 => false
    | 20 => true
    | 21 => false
    | 22 => true
    | 23 => true
    | 24 => true
    | 25 => true
    | 26 => true
    | 27 => true
    | 28 => true
    | 29 => true
    | 30 => true
    | 31 => false
    | 32 => true
    | _ => true)
def zdef (ci : Nat) : List Value := match ci with
  | 0 => [.null, .null, .null, .null, .null, .null, .null, .null, .int 0, .int 0]
  | 1 => [.null, .int 0]
  | 2 => [.null]
  | 3 => [.null, .null, .null]
  | 4 => [.null, .null, .int 0]
  | 5 => [.null]
  | 6 => [.null, .null, .null, .int 0, .int 0]
  | 7 => [.null, .null, .int 0]
  | 8 => [.null, .null, .null, .int 0]
  | _ => [.int 0, .null, .int 0, .null, .null, .null, .null, .null, .null, .null, .null, .null, .null, .null, .null, .null, .int 0, .int 0, .int 0, .int 0, .null, .int 0, .null, .null, .null, .null, .null, .null, .null, .null, .null, .int 0, .null, .null]
abbrev zPat : Nat := 8
abbrev zPatN : String := "BedMessages$Patient"
abbrev zPatC : vw_C := ("BedMessages$Patient", zT8, 4)
def zRns : List String := ["BedMessages", "BedMessages$Chars", "BedMessages$Frame", "BedMessages$Hospital", "BedMessages$Ledger", "BedMessages$Separators", "BedMessages$Message", "BedMessages$Measured", "BedMessages$Patient", "BedMessagesModel", "BedMessagesLaw", "java/lang/String", "java/lang/StringLatin1", "jdk/internal/util/Preconditions", "BedMessages$Kind", "java/lang/Enum", "java/lang/Math"]
def zRn (o : Nat) : String := zRns.getD o ""
def zcodeL : List ByteArray := [prog_1_method_1_code, prog_1_method_2_code, prog_1_method_19_code, prog_1_method_20_code, prog_1_method_21_code, prog_1_method_3_code, prog_1_method_25_code, prog_1_method_22_code, prog_1_method_23_code, prog_1_method_24_code, prog_1_method_28_code, prog_1_method_26_code, prog_1_method_27_code, prog_1_method_29_code, prog_1_method_30_code, prog_1_method_31_code, prog_1_method_4_code, prog_1_method_5_code, prog_1_method_6_code, prog_1_method_7_code, prog_1_method_8_code, prog_1_method_9_code, prog_1_method_10_code, prog_1_method_11_code, prog_1_method_12_code, prog_1_method_13_code, prog_1_method_14_code, prog_1_method_15_code, prog_1_method_16_code, prog_1_method_17_code, prog_1_method_18_code, prog_3_method_1_code, prog_3_method_3_code, prog_3_method_5_code, prog_3_method_2_code, prog_3_method_7_code, prog_3_method_4_code, prog_3_method_6_code, prog_4_method_1_code, prog_4_method_2_code, prog_4_method_3_code, prog_4_method_4_code, prog_4_method_5_code, prog_4_method_6_code, prog_4_method_7_code, prog_5_method_1_code, prog_5_method_5_code, prog_5_method_13_code, prog_5_method_14_code, prog_5_method_6_code, prog_5_method_2_code, prog_5_method_3_code, prog_5_method_11_code, prog_5_method_15_code, prog_5_method_16_code, prog_5_method_7_code, prog_5_method_12_code, prog_5_method_8_code, prog_5_method_9_code, prog_5_method_10_code, prog_5_method_17_code, prog_5_method_18_code, prog_5_method_4_code, prog_7_method_1_code, prog_7_method_2_code, prog_7_method_3_code, prog_11_method_1_code, prog_11_method_2_code, prog_11_method_5_code, prog_11_method_4_code, prog_11_method_3_code, prog_11_method_6_code, prog_11_method_7_code, prog_9_method_1_code, prog_9_method_2_code, prog_9_method_4_code, prog_9_method_3_code, prog_9_method_14_code, prog_9_method_5_code, prog_9_method_7_code, prog_9_method_15_code, prog_9_method_9_code, prog_9_method_13_code, prog_9_method_11_code, prog_9_method_8_code, prog_9_method_10_code, prog_9_method_12_code, prog_9_method_6_code, prog_9_method_16_code, prog_8_method_1_code, prog_8_method_6_code, prog_8_method_5_code, prog_8_method_2_code, prog_8_method_4_code, prog_8_method_3_code, prog_10_method_1_code, prog_13_method_1_code, prog_13_method_2_code, prog_13_method_48_code, prog_13_method_37_code, prog_13_method_8_code, prog_13_method_9_code, prog_13_method_7_code, prog_13_method_6_code, prog_13_method_3_code, prog_13_method_4_code, prog_13_method_5_code, prog_13_method_16_code, prog_13_method_15_code, prog_13_method_14_code, prog_13_method_13_code, prog_13_method_11_code, prog_13_method_12_code, prog_13_method_10_code, prog_13_method_24_code, prog_13_method_18_code, prog_13_method_19_code, prog_13_method_20_code, prog_13_method_41_code, prog_13_method_25_code, prog_13_method_21_code, prog_13_method_38_code, prog_13_method_23_code, prog_13_method_27_code, prog_13_method_26_code, prog_13_method_28_code, prog_13_method_29_code, prog_13_method_32_code, prog_13_method_30_code, prog_13_method_31_code, prog_13_method_22_code, prog_13_method_36_code, prog_13_method_34_code, prog_13_method_35_code, prog_13_method_33_code, prog_13_method_40_code, prog_13_method_39_code, prog_13_method_42_code, prog_13_method_47_code, prog_13_method_44_code, prog_13_method_43_code, prog_13_method_45_code, prog_13_method_17_code, prog_13_method_46_code, prog_13_method_49_code, prog_13_method_50_code, prog_13_method_51_code, prog_13_method_52_code, prog_13_method_53_code, prog_13_method_55_code, prog_13_method_54_code, prog_13_method_56_code, prog_13_method_57_code, prog_13_method_58_code, prog_13_method_59_code, prog_13_method_60_code, prog_13_method_61_code, prog_13_method_62_code, prog_13_method_66_code, prog_13_method_63_code, prog_13_method_65_code, prog_13_method_64_code, prog_13_method_67_code, prog_17_method_54_code, prog_17_method_152_code, prog_17_method_56_code, prog_17_method_154_code, prog_17_method_155_code, prog_17_method_79_code, prog_17_method_80_code, prog_18_method_2_code, prog_18_method_22_code, prog_18_method_4_code, prog_18_method_23_code, prog_20_method_11_code, prog_15_method_2_code]
def zcode (j : Nat) : ByteArray := zcodeL.getD j code
def zmaxLL : List Nat := [1, 5, 3, 1, 3, 2, 1, 1, 1, 1, 2, 2, 1, 2, 2, 1, 1, 1, 1, 2, 3, 3, 1, 2, 5, 5, 3, 1, 6, 6, 2, 2, 1, 2, 1, 3, 2, 3, 1, 3, 4, 6, 4, 9, 8, 1, 6, 5, 6, 6, 2, 2, 4, 3, 3, 4, 2, 3, 5, 10, 5, 6, 3, 1, 4, 4, 1, 3, 4, 3, 2, 3, 4, 1, 1, 1, 2, 7, 10, 3, 4, 4, 4, 7, 3, 5, 3, 4, 5, 1, 3, 3, 3, 4, 3, 1, 2, 7, 4, 1, 2, 2, 2, 5, 1, 1, 1, 2, 1, 7, 7, 2, 1, 6, 5, 7, 2, 3, 5, 5, 5, 6, 6, 3, 6, 7, 4, 5, 4, 3, 2, 5, 4, 5, 4, 4, 7, 4, 3, 4, 2, 3, 2, 1, 1, 1, 1, 2, 3, 2, 1, 3, 2, 4, 5, 2, 1, 7, 8, 2, 8, 4, 2, 1, 1, 2, 1, 2, 2, 3, 2, 4, 1, 6, 3, 1]
def zmaxL (j : Nat) : Nat := zmaxLL.getD j 4
def zrtL : List (Option FieldType) := [none, (some .int), (some .int), (some .boolean), (some .boolean), (some .int), (some .boolean), (some .boolean), (some .boolean), (some .boolean), none, (some .int), (some .int), none, none, none, (some .int), (some .boolean), (some .int), (some .int), (some .int), (some .int), (some .int), (some .boolean), (some .int), (some .int), (some .int), (some .int), (some .int), (some .int), (some .int), none, (some .int), none, none, (some .boolean), (some .int), none, none, (some .int), (some .boolean), (some .boolean), (some .boolean), (some .boolean), (some .int), none, (some .int), (some .int), (some .int), (some .int), (some (.object "BedMessages$Patient")), (some .int), none, none, none, (some .int), none, (some .int), (some .int), (some .int), (some .boolean), (some .boolean), (some .int), none, (some .int), none, none, none, (some .boolean), (some .int), (some .int), none, none, none, none, none, none, (some .long), (some .int), (some .int), (some (.object "BedMessages$Kind")), (some .boolean), (some .int), (some .int), (some .int), none, (some .int), (some .int), none, none, none, none, (some .int), (some .boolean), (some .int), none, none, (some .int), (some .int), (some .int), (some .boolean), (some .boolean), (some .char), (some .boolean), (some .boolean), (some .boolean), (some .boolean), (some .boolean), (some .boolean), (some .boolean), (some .boolean), none, (some .int), none, (some .boolean), (some .int), (some .int), (some .char), (some .int), (some .int), (some .boolean), (some .int), (some .int), (some .int), (some .int), (some .int), (some .int), (some .boolean), (some .int), (some .int), (some .boolean), (some .boolean), none, (some .boolean), (some .int), none, none, none, none, none, none, none, none, (some .int), (some .int), (some .boolean), (some .int), (some .int), (some .int), (some .int), (some .boolean), (some .int), (some .boolean), (some .int), (some .int), (some .int), (some .int), (some .int), (some .int), none, none, none, (some .int), (some .int), (some .byte), (some .char), (some .boolean), none, (some .int), (some .int), (some .char), (some .int), (some .boolean), (some .int), (some .int), (some .int)]
def zrt (j : Nat) : Option FieldType := zrtL.getD j (some .boolean)
def zownL : List Nat := [0, 0, 0, 0, 0, 0, 0, 0, 0, 0, 0, 0, 0, 0, 0, 0, 0, 0, 0, 0, 0, 0, 0, 0, 0, 0, 0, 0, 0, 0, 0, 1, 1, 1, 1, 1, 1, 1, 2, 2, 2, 2, 2, 2, 2, 3, 3, 3, 3, 3, 3, 3, 3, 3, 3, 3, 3, 3, 3, 3, 3, 3, 3, 4, 4, 4, 5, 5, 5, 5, 5, 5, 5, 6, 6, 6, 6, 6, 6, 6, 6, 6, 6, 6, 6, 6, 6, 6, 6, 7, 7, 7, 7, 7, 7, 8, 9, 9, 9, 9, 9, 9, 9, 9, 9, 9, 9, 9, 9, 9, 9, 9, 9, 9, 9, 9, 9, 9, 9, 9, 9, 9, 9, 9, 9, 9, 9, 9, 9, 9, 9, 9, 9, 9, 9, 9, 9, 9, 9, 9, 9, 9, 9, 9, 9, 9, 9, 9, 9, 9, 9, 9, 9, 9, 9, 9, 9, 9, 9, 9, 9, 9, 9, 11, 11, 11, 11, 11, 11, 11, 12, 12, 12, 12, 13, 15]
def zown (j : Nat) : Nat := zownL.getD j 10
def znameL : List MethodName := [⟨"BedMessages", "<init>", "()V"⟩, ⟨"BedMessages", "type", "(J)I"⟩, ⟨"BedMessages", "byteOf", "(JI)I"⟩, ⟨"BedMessages", "mayStandInFrame", "(I)Z"⟩, ⟨"BedMessages", "isBetween", "(III)Z"⟩, ⟨"BedMessages", "end", "()I"⟩, ⟨"BedMessages", "isLetterOrDigit", "(I)Z"⟩, ⟨"BedMessages", "isCapital", "(I)Z"⟩, ⟨"BedMessages", "isSmall", "(I)Z"⟩, ⟨"BedMessages", "isDigit", "(I)Z"⟩, ⟨"BedMessages", "makeSpareLatest", "()V"⟩, ⟨"BedMessages", "codeOf", "(II)I"⟩, ⟨"BedMessages", "receiptFor", "(I)I"⟩, ⟨"BedMessages", "writeReceipt", "()V"⟩, ⟨"BedMessages", "writeReceiptField", "(Ljava/lang/String;)V"⟩, ⟨"BedMessages", "writeReceiptIdentity", "()V"⟩, ⟨"BedMessages", "reason", "()I"⟩, ⟨"BedMessages", "replayed", "()Z"⟩, ⟨"BedMessages", "receiptLength", "()I"⟩, ⟨"BedMessages", "receipt", "(I)I"⟩, ⟨"BedMessages", "patient", "(II)I"⟩, ⟨"BedMessages", "bedOf", "(I)I"⟩, ⟨"BedMessages", "inBeds", "()I"⟩, ⟨"BedMessages", "known", "(I)Z"⟩, ⟨"BedMessages", "name", "(III)I"⟩, ⟨"BedMessages", "result", "(ICC)I"⟩, ⟨"BedMessages", "results", "(I)I"⟩, ⟨"BedMessages", "segments", "()I"⟩, ⟨"BedMessages", "text", "(IIIII)I"⟩, ⟨"BedMessages", "write", "(CCCCC)I"⟩, ⟨"BedMessages", "written", "(I)I"⟩, ⟨"BedMessages$Chars", "<init>", "(I)V"⟩, ⟨"BedMessages$Chars", "room", "()I"⟩, ⟨"BedMessages$Chars", "put", "(I)V"⟩, ⟨"BedMessages$Chars", "clear", "()V"⟩, ⟨"BedMessages$Chars", "beginsWith", "(Ljava/lang/String;)Z"⟩, ⟨"BedMessages$Chars", "at", "(I)I"⟩, ⟨"BedMessages$Chars", "putAll", "(Ljava/lang/String;)V"⟩, ⟨"BedMessages$Frame", "<init>", "()V"⟩, ⟨"BedMessages$Frame", "readInto", "(LBedMessages$Message;)I"⟩, ⟨"BedMessages$Frame", "readSegments", "(LBedMessages$Message;)Z"⟩, ⟨"BedMessages$Frame", "readSegment", "(LBedMessages$Message;II)Z"⟩, ⟨"BedMessages$Frame", "isName", "(I)Z"⟩, ⟨"BedMessages$Frame", "readFields", "(LBedMessages$Message;II)Z"⟩, ⟨"BedMessages$Frame", "escaped", "(LBedMessages$Separators;I)I"⟩, ⟨"BedMessages$Hospital", "<init>", "()V"⟩, ⟨"BedMessages$Hospital", "take", "(LBedMessages$Message;)I"⟩, ⟨"BedMessages$Hospital", "patientNumber", "(LBedMessages$Message;I)I"⟩, ⟨"BedMessages$Hospital", "bedAsked", "(LBedMessages$Message;)I"⟩, ⟨"BedMessages$Hospital", "admit", "(LBedMessages$Message;III)I"⟩, ⟨"BedMessages$Hospital", "find", "(I)LBedMessages$Patient;"⟩, ⟨"BedMessages$Hospital", "patientIn", "(I)I"⟩, ⟨"BedMessages$Hospital", "putInBed", "(ILBedMessages$Patient;I)V"⟩, ⟨"BedMessages$Hospital", "takeNames", "(LBedMessages$Message;ILBedMessages$Patient;)V"⟩, ⟨"BedMessages$Hospital", "takeName", "(LBedMessages$Message;ILBedMessages$Chars;)V"⟩, ⟨"BedMessages$Hospital", "move", "(II)I"⟩, ⟨"BedMessages$Hospital", "emptyBedOf", "(LBedMessages$Patient;)V"⟩, ⟨"BedMessages$Hospital", "leave", "(I)I"⟩, ⟨"BedMessages$Hospital", "rename", "(LBedMessages$Message;II)I"⟩, ⟨"BedMessages$Hospital", "measure", "(LBedMessages$Message;I)I"⟩, ⟨"BedMessages$Hospital", "areValues", "(LBedMessages$Message;I)Z"⟩, ⟨"BedMessages$Hospital", "tryValues", "(LBedMessages$Message;II)Z"⟩, ⟨"BedMessages$Hospital", "countInBeds", "()I"⟩, ⟨"BedMessages$Ledger", "<init>", "()V"⟩, ⟨"BedMessages$Ledger", "reasonOf", "(J)I"⟩, ⟨"BedMessages$Ledger", "add", "(JI)V"⟩, ⟨"BedMessages$Separators", "<init>", "()V"⟩, ⟨"BedMessages$Separators", "set", "(II)V"⟩, ⟨"BedMessages$Separators", "areProper", "()Z"⟩, ⟨"BedMessages$Separators", "placeOf", "(I)I"⟩, ⟨"BedMessages$Separators", "at", "(I)I"⟩, ⟨"BedMessages$Separators", "putAllTo", "(LBedMessages$Chars;)V"⟩, ⟨"BedMessages$Separators", "putTextCharacter", "(ILBedMessages$Chars;)V"⟩, ⟨"BedMessages$Message", "<init>", "()V"⟩, ⟨"BedMessages$Message", "clear", "()V"⟩, ⟨"BedMessages$Message", "startSegment", "()V"⟩, ⟨"BedMessages$Message", "add", "(I)V"⟩, ⟨"BedMessages$Message", "identity", "()J"⟩, ⟨"BedMessages$Message", "find", "(IIII)I"⟩, ⟨"BedMessages$Message", "textLength", "(I)I"⟩, ⟨"BedMessages$Message", "kind", "()LBedMessages$Kind;"⟩, ⟨"BedMessages$Message", "says", "(ILjava/lang/String;)Z"⟩, ⟨"BedMessages$Message", "nextNamed", "(Ljava/lang/String;I)I"⟩, ⟨"BedMessages$Message", "number", "(II)I"⟩, ⟨"BedMessages$Message", "character", "(II)I"⟩, ⟨"BedMessages$Message", "copyText", "(ILBedMessages$Chars;)V"⟩, ⟨"BedMessages$Message", "code", "(I)I"⟩, ⟨"BedMessages$Message", "nextRepetition", "(I)I"⟩, ⟨"BedMessages$Message", "writeTo", "(LBedMessages$Chars;LBedMessages$Separators;)V"⟩, ⟨"BedMessages$Measured", "<init>", "()V"⟩, ⟨"BedMessages$Measured", "copyFrom", "(LBedMessages$Measured;)V"⟩, ⟨"BedMessages$Measured", "remove", "(I)V"⟩, ⟨"BedMessages$Measured", "placeOf", "(I)I"⟩, ⟨"BedMessages$Measured", "set", "(II)Z"⟩, ⟨"BedMessages$Measured", "valueOf", "(I)I"⟩, ⟨"BedMessages$Patient", "<init>", "()V"⟩, ⟨"BedMessagesModel", "<init>", "()V"⟩, ⟨"BedMessagesModel", "type", "(J)I"⟩, ⟨"BedMessagesModel", "end", "()I"⟩, ⟨"BedMessagesModel", "reject", "()I"⟩, ⟨"BedMessagesModel", "begin", "()Z"⟩, ⟨"BedMessagesModel", "readSeparators", "()Z"⟩, ⟨"BedMessagesModel", "now", "(I)C"⟩, ⟨"BedMessagesModel", "fitting", "([C)Z"⟩, ⟨"BedMessagesModel", "capital", "(C)Z"⟩, ⟨"BedMessagesModel", "small", "(C)Z"⟩, ⟨"BedMessagesModel", "digit", "(C)Z"⟩, ⟨"BedMessagesModel", "apart", "()Z"⟩, ⟨"BedMessagesModel", "rest", "()Z"⟩, ⟨"BedMessagesModel", "fields", "()Z"⟩, ⟨"BedMessagesModel", "escape", "()Z"⟩, ⟨"BedMessagesModel", "add", "(C)V"⟩, ⟨"BedMessagesModel", "hex", "(C)I"⟩, ⟨"BedMessagesModel", "open", "(IIII)V"⟩, ⟨"BedMessagesModel", "hasIdentity", "()Z"⟩, ⟨"BedMessagesModel", "find", "(IIIII)I"⟩, ⟨"BedMessagesModel", "sizeOf", "(I)I"⟩, ⟨"BedMessagesModel", "charOf", "(II)C"⟩, ⟨"BedMessagesModel", "seen", "()I"⟩, ⟨"BedMessagesModel", "kind", "()I"⟩, ⟨"BedMessagesModel", "is", "(ICCC)Z"⟩, ⟨"BedMessagesModel", "judge", "(I)I"⟩, ⟨"BedMessagesModel", "segment", "(CCCI)I"⟩, ⟨"BedMessagesModel", "patientIn", "(I)I"⟩, ⟨"BedMessagesModel", "number", "(II)I"⟩, ⟨"BedMessagesModel", "bedIn", "(I)I"⟩, ⟨"BedMessagesModel", "whoIsIn", "(I)I"⟩, ⟨"BedMessagesModel", "wrongResults", "()Z"⟩, ⟨"BedMessagesModel", "codeIn", "(I)I"⟩, ⟨"BedMessagesModel", "repetitions", "(I)I"⟩, ⟨"BedMessagesModel", "isNull", "(I)Z"⟩, ⟨"BedMessagesModel", "tryResults", "(I)Z"⟩, ⟨"BedMessagesModel", "copyResults", "(II)V"⟩, ⟨"BedMessagesModel", "tryValue", "(II)Z"⟩, ⟨"BedMessagesModel", "resultAt", "(II)I"⟩, ⟨"BedMessagesModel", "act", "(I)V"⟩, ⟨"BedMessagesModel", "takeName", "(III)V"⟩, ⟨"BedMessagesModel", "remember", "(I)V"⟩, ⟨"BedMessagesModel", "write0", "(I)V"⟩, ⟨"BedMessagesModel", "sayThree", "(CCC)V"⟩, ⟨"BedMessagesModel", "say", "(C)V"⟩, ⟨"BedMessagesModel", "sayIdentity", "()V"⟩, ⟨"BedMessagesModel", "keep", "()V"⟩, ⟨"BedMessagesModel", "answerOf", "(I)I"⟩, ⟨"BedMessagesModel", "reason", "()I"⟩, ⟨"BedMessagesModel", "replayed", "()Z"⟩, ⟨"BedMessagesModel", "receiptLength", "()I"⟩, ⟨"BedMessagesModel", "receipt", "(I)I"⟩, ⟨"BedMessagesModel", "patient", "(II)I"⟩, ⟨"BedMessagesModel", "bedOf", "(I)I"⟩, ⟨"BedMessagesModel", "isPatient", "(I)Z"⟩, ⟨"BedMessagesModel", "inBeds", "()I"⟩, ⟨"BedMessagesModel", "known", "(I)Z"⟩, ⟨"BedMessagesModel", "name", "(III)I"⟩, ⟨"BedMessagesModel", "result", "(ICC)I"⟩, ⟨"BedMessagesModel", "results", "(I)I"⟩, ⟨"BedMessagesModel", "segments", "()I"⟩, ⟨"BedMessagesModel", "text", "(IIIII)I"⟩, ⟨"BedMessagesModel", "write", "(CCCCC)I"⟩, ⟨"BedMessagesModel", "put", "(C)V"⟩, ⟨"BedMessagesModel", "putSegment", "(I)V"⟩, ⟨"BedMessagesModel", "putText", "(C)V"⟩, ⟨"BedMessagesModel", "written", "(I)I"⟩, ⟨"java/lang/String", "length", "()I"⟩, ⟨"java/lang/String", "coder", "()B"⟩, ⟨"java/lang/String", "charAt", "(I)C"⟩, ⟨"java/lang/String", "isLatin1", "()Z"⟩, ⟨"java/lang/String", "checkIndex", "(II)V"⟩, ⟨"java/lang/String", "indexOf", "(I)I"⟩, ⟨"java/lang/String", "indexOf", "(II)I"⟩, ⟨"java/lang/StringLatin1", "charAt", "([BI)C"⟩, ⟨"java/lang/StringLatin1", "indexOf", "([BIII)I"⟩, ⟨"java/lang/StringLatin1", "canEncode", "(I)Z"⟩, ⟨"java/lang/StringLatin1", "indexOfChar", "([BIII)I"⟩, ⟨"jdk/internal/util/Preconditions", "checkIndex", "(IILjava/util/function/BiFunction;)I"⟩, ⟨"java/lang/Enum", "ordinal", "()I"⟩]
def zname (j : Nat) : MethodName := znameL.getD j ⟨"BedMessagesLaw", "law", "([I)Z"⟩
def ziniL : List Bool := [true, false, false, false, false, false, false, false, false, false, false, false, false, false, false, false, false, false, false, false, false, false, false, false, false, false, false, false, false, false, false, true, false, false, false, false, false, false, true, false, false, false, false, false, false, true, false, false, false, false, false, false, false, false, false, false, false, false, false, false, false, false, false, true, false, false, true, false, false, false, false, false, false, true, false, false, false, false, false, false, false, false, false, false, false, false, false, false, false, true, false, false, false, false, false, true, true, false, false, false, false, false, false, false, false, false, false, false, false, false, false, false, false, false, false, false, false, false, false, false, false, false, false, false, false, false, false, false, false, false, false, false, false, false, false, false, false, false, false, false, false, false, false, false, false, false, false, false, false, false, false, false, false, false, false, false, false, false, false, false, false, false, false, false, false, false, false, false, false, false, false, false, false, false, false, false]
def zini (j : Nat) : Bool := ziniL.getD j false
abbrev zNM : Nat := 176
abbrev j_B_init : Nat := 0
abbrev j_B_type : Nat := 1
abbrev j_B_byteOf : Nat := 2
abbrev j_B_mayStandInFrame : Nat := 3
abbrev j_B_isBetween : Nat := 4
abbrev j_B_end : Nat := 5
abbrev j_B_isLetterOrDigit : Nat := 6
abbrev j_B_isCapital : Nat := 7
abbrev j_B_isSmall : Nat := 8
abbrev j_B_isDigit : Nat := 9
abbrev j_B_makeSpareLatest : Nat := 10
abbrev j_B_codeOf : Nat := 11
abbrev j_B_receiptFor : Nat := 12
abbrev j_B_writeReceipt : Nat := 13
abbrev j_B_writeReceiptField : Nat := 14
abbrev j_B_writeReceiptIdentity : Nat := 15
abbrev j_B_reason : Nat := 16
abbrev j_B_replayed : Nat := 17
abbrev j_B_receiptLength : Nat := 18
abbrev j_B_receipt : Nat := 19
abbrev j_B_patient : Nat := 20
abbrev j_B_bedOf : Nat := 21
abbrev j_B_inBeds : Nat := 22
abbrev j_B_known : Nat := 23
abbrev j_B_name : Nat := 24
abbrev j_B_result : Nat := 25
abbrev j_B_results : Nat := 26
abbrev j_B_segments : Nat := 27
abbrev j_B_text : Nat := 28
abbrev j_B_write : Nat := 29
abbrev j_B_written : Nat := 30
abbrev j_Chars_init : Nat := 31
abbrev j_Chars_room : Nat := 32
abbrev j_Chars_put : Nat := 33
abbrev j_Chars_clear : Nat := 34
abbrev j_Chars_beginsWith : Nat := 35
abbrev j_Chars_at : Nat := 36
abbrev j_Chars_putAll : Nat := 37
abbrev j_Frame_init : Nat := 38
abbrev j_Frame_readInto : Nat := 39
abbrev j_Frame_readSegments : Nat := 40
abbrev j_Frame_readSegment : Nat := 41
abbrev j_Frame_isName : Nat := 42
abbrev j_Frame_readFields : Nat := 43
abbrev j_Frame_escaped : Nat := 44
abbrev j_Hosp_init : Nat := 45
abbrev j_Hosp_take : Nat := 46
abbrev j_Hosp_patientNumber : Nat := 47
abbrev j_Hosp_bedAsked : Nat := 48
abbrev j_Hosp_admit : Nat := 49
abbrev j_Hosp_find : Nat := 50
abbrev j_Hosp_patientIn : Nat := 51
abbrev j_Hosp_putInBed : Nat := 52
abbrev j_Hosp_takeNames : Nat := 53
abbrev j_Hosp_takeName : Nat := 54
abbrev j_Hosp_move : Nat := 55
abbrev j_Hosp_emptyBedOf : Nat := 56
abbrev j_Hosp_leave : Nat := 57
abbrev j_Hosp_rename : Nat := 58
abbrev j_Hosp_measure : Nat := 59
abbrev j_Hosp_areValues : Nat := 60
abbrev j_Hosp_tryValues : Nat := 61
abbrev j_Hosp_countInBeds : Nat := 62
abbrev j_Ledg_init : Nat := 63
abbrev j_Ledg_reasonOf : Nat := 64
abbrev j_Ledg_add : Nat := 65
abbrev j_Seps_init : Nat := 66
abbrev j_Seps_set : Nat := 67
abbrev j_Seps_areProper : Nat := 68
abbrev j_Seps_placeOf : Nat := 69
abbrev j_Seps_at : Nat := 70
abbrev j_Seps_putAllTo : Nat := 71
abbrev j_Seps_putTextCharacter : Nat := 72
abbrev j_Mess_init : Nat := 73
abbrev j_Mess_clear : Nat := 74
abbrev j_Mess_startSegment : Nat := 75
abbrev j_Mess_add : Nat := 76
abbrev j_Mess_identity : Nat := 77
abbrev j_Mess_find : Nat := 78
abbrev j_Mess_textLength : Nat := 79
abbrev j_Mess_kind : Nat := 80
abbrev j_Mess_says : Nat := 81
abbrev j_Mess_nextNamed : Nat := 82
abbrev j_Mess_number : Nat := 83
abbrev j_Mess_character : Nat := 84
abbrev j_Mess_copyText : Nat := 85
abbrev j_Mess_code : Nat := 86
abbrev j_Mess_nextRepetition : Nat := 87
abbrev j_Mess_writeTo : Nat := 88
abbrev j_Meas_init : Nat := 89
abbrev j_Meas_copyFrom : Nat := 90
abbrev j_Meas_remove : Nat := 91
abbrev j_Meas_placeOf : Nat := 92
abbrev j_Meas_set : Nat := 93
abbrev j_Meas_valueOf : Nat := 94
abbrev j_Pat_init : Nat := 95
abbrev j_Mod_init : Nat := 96
abbrev j_Mod_type : Nat := 97
abbrev j_Mod_end : Nat := 98
abbrev j_Mod_reject : Nat := 99
abbrev j_Mod_begin : Nat := 100
abbrev j_Mod_readSeparators : Nat := 101
abbrev j_Mod_now : Nat := 102
abbrev j_Mod_fitting : Nat := 103
abbrev j_Mod_capital : Nat := 104
abbrev j_Mod_small : Nat := 105
abbrev j_Mod_digit : Nat := 106
abbrev j_Mod_apart : Nat := 107
abbrev j_Mod_rest : Nat := 108
abbrev j_Mod_fields : Nat := 109
abbrev j_Mod_escape : Nat := 110
abbrev j_Mod_add : Nat := 111
abbrev j_Mod_hex : Nat := 112
abbrev j_Mod_open : Nat := 113
abbrev j_Mod_hasIdentity : Nat := 114
abbrev j_Mod_find : Nat := 115
abbrev j_Mod_sizeOf : Nat := 116
abbrev j_Mod_charOf : Nat := 117
abbrev j_Mod_seen : Nat := 118
abbrev j_Mod_kind : Nat := 119
abbrev j_Mod_is : Nat := 120
abbrev j_Mod_judge : Nat := 121
abbrev j_Mod_segment : Nat := 122
abbrev j_Mod_patientIn : Nat := 123
abbrev j_Mod_number : Nat := 124
abbrev j_Mod_bedIn : Nat := 125
abbrev j_Mod_whoIsIn : Nat := 126
abbrev j_Mod_wrongResults : Nat := 127
abbrev j_Mod_codeIn : Nat := 128
abbrev j_Mod_repetitions : Nat := 129
abbrev j_Mod_isNull : Nat := 130
abbrev j_Mod_tryResults : Nat := 131
abbrev j_Mod_copyResults : Nat := 132
abbrev j_Mod_tryValue : Nat := 133
abbrev j_Mod_resultAt : Nat := 134
abbrev j_Mod_act : Nat := 135
abbrev j_Mod_takeName : Nat := 136
abbrev j_Mod_remember : Nat := 137
abbrev j_Mod_write0 : Nat := 138
abbrev j_Mod_sayThree : Nat := 139
abbrev j_Mod_say : Nat := 140
abbrev j_Mod_sayIdentity : Nat := 141
abbrev j_Mod_keep : Nat := 142
abbrev j_Mod_answerOf : Nat := 143
abbrev j_Mod_reason : Nat := 144
abbrev j_Mod_replayed : Nat := 145
abbrev j_Mod_receiptLength : Nat := 146
abbrev j_Mod_receipt : Nat := 147
abbrev j_Mod_patient : Nat := 148
abbrev j_Mod_bedOf : Nat := 149
abbrev j_Mod_isPatient : Nat := 150
abbrev j_Mod_inBeds : Nat := 151
abbrev j_Mod_known : Nat := 152
abbrev j_Mod_name : Nat := 153
abbrev j_Mod_result : Nat := 154
abbrev j_Mod_results : Nat := 155
abbrev j_Mod_segments : Nat := 156
abbrev j_Mod_text : Nat := 157
abbrev j_Mod_write : Nat := 158
abbrev j_Mod_put : Nat := 159
abbrev j_Mod_putSegment : Nat := 160
abbrev j_Mod_putText : Nat := 161
abbrev j_Mod_written : Nat := 162
abbrev j_Str_length : Nat := 163
abbrev j_Str_coder : Nat := 164
abbrev j_Str_charAt : Nat := 165
abbrev j_Str_isLatin1 : Nat := 166
abbrev j_Str_checkIndex : Nat := 167
abbrev j_Str_indexOf : Nat := 168
abbrev j_Str_indexOf2 : Nat := 169
abbrev j_Lat_charAt : Nat := 170
abbrev j_Lat_indexOf : Nat := 171
abbrev j_Lat_canEncode : Nat := 172
abbrev j_Lat_indexOfChar : Nat := 173
abbrev j_Prec_checkIndex : Nat := 174
abbrev j_Enum_ordinal : Nat := 175
abbrev j_law : Nat := 176
def zlook {α : Type} (T : List (Nat × α)) (i : Nat) : Option α := match T with
  | [] => none
  | e :: r => if e.1 = i then some e.2 else zlook r i
theorem zlook_mem {α : Type} {T : List (Nat × α)} {i : Nat} {x : α} (h : zlook T i = some x) : (i, x) ∈ T := by
  induction T with
  | nil => cases h
  | cons e r ih =>
    rw [zlook] at h
    split at h
    · rename_i he
      cases h
      subst he
      exact List.mem_cons_self
    · exact List.mem_cons_of_mem _ (ih h)
def zlk {α : Type} (T : List (List (Nat × α))) (o i : Nat) : Option α := zlook (T.getD o []) i
theorem zlk_all {α : Type} {T : List (List (Nat × α))} {p : Nat → Nat → α → Bool} (h : (List.range T.length).all (fun o => (T.getD o []).all (fun e => p o e.1 e.2)) = true) {o i : Nat} {x : α} (hx : zlk T o i = some x) : p o i x = true := by
  have hm := zlook_mem hx
  have ho : o < T.length := by
    rcases Nat.lt_or_ge o T.length with q | q
    · exact q
    · rw [List.getD_eq_getElem?_getD, List.getElem?_eq_none q] at hm
      cases hm
  have h1 := List.all_eq_true.mp h o (List.mem_range.mpr ho)
  exact List.all_eq_true.mp h1 _ hm
def zflT : List (List (Nat × (Nat × Nat × Bool))) := [[(12, (0, 0, false)), (19, (0, 1, false)), (26, (0, 2, false)), (33, (0, 3, false)), (42, (0, 4, false)), (46, (0, 5, false)), (52, (0, 6, false)), (56, (0, 7, false)), (59, (0, 8, false)), (63, (0, 9, false)), (75, (2, 0, true)), (117, (1, 1, true)), (130, (8, 3, true)), (138, (8, 0, true)), (141, (8, 1, true)), (144, (8, 2, true)), (157, (7, 2, true)), (160, (6, 4, true)), (200, (6, 0, true))],
  [(9, (1, 1, false)), (15, (1, 0, false))],
  [(14, (2, 0, false)), (31, (6, 0, true)), (53, (6, 4, true)), (61, (1, 1, true))],
  [(9, (3, 0, false)), (17, (3, 1, false)), (24, (3, 2, false)), (82, (8, 3, true)), (102, (8, 2, true)), (140, (8, 0, true)), (148, (8, 1, true))],
  [(9, (4, 0, false)), (15, (4, 1, false)), (19, (4, 2, false))],
  [(9, (5, 0, false))],
  [(14, (6, 0, false)), (18, (6, 1, false)), (22, (6, 2, false)), (25, (6, 3, false)), (29, (6, 4, false))],
  [(9, (7, 0, false)), (15, (7, 1, false)), (18, (7, 2, false))],
  [(14, (8, 0, false)), (20, (8, 1, false)), (26, (8, 2, false)), (30, (8, 3, false))],
  [(7, (9, 1, false)), (13, (9, 3, false)), (17, (9, 4, false)), (20, (9, 5, false)), (23, (9, 6, false)), (26, (9, 7, false)), (29, (9, 8, false)), (32, (9, 9, false)), (35, (9, 10, false)), (38, (9, 11, false)), (41, (9, 12, false)), (44, (9, 13, false)), (47, (9, 14, false)), (50, (9, 15, false)), (53, (9, 20, false)), (56, (9, 22, false)), (59, (9, 23, false)), (62, (9, 24, false)), (66, (9, 25, false)), (69, (9, 26, false)), (72, (9, 27, false)), (75, (9, 28, false)), (78, (9, 29, false)), (81, (9, 30, false)), (84, (9, 32, false)), (87, (9, 33, false)), (98, (9, 0, false)), (112, (9, 2, false)), (221, (9, 21, false)), (224, (9, 19, false)), (237, (9, 16, false)), (241, (9, 18, false)), (248, (9, 17, false)), (279, (9, 31, false))],
  [],
  [],
  [],
  [],
  [],
  [],
  []]
def zfl (o i : Nat) : Option (Nat × Nat × Bool) := zlk zflT o i
def zclT : List (List (Nat × Nat)) := [[(9, 2), (16, 3), (23, 4), (30, 5), (37, 1), (49, 6)],
  [],
  [(9, 1)],
  [(15, 8), (21, 7)],
  [],
  [],
  [(11, 5)],
  [],
  [(9, 1), (23, 7)],
  [],
  [(7, 0), (10, 9)],
  [],
  [],
  [],
  [],
  [],
  []]
def zcl (o i : Nat) : Option Nat := zlk zclT o i
def zal (o i : Nat) : Bool := decide (o = 3 ∧ i = 15)
def zldT : List (List (Nat × Value)) := [[(194, (.ref 1)), (207, (.ref 8)), (215, (.ref 9)), (217, (.ref 10)), (219, (.ref 11)), (221, (.ref 12)), (223, (.ref 13)), (225, (.ref 14))],
  [],
  [(25, (.ref 1)), (95, (.ref 2)), (102, (.ref 3))],
  [(34, (.ref 4)), (109, (.ref 7)), (135, (.ref 5)), (156, (.ref 6))],
  [],
  [(33, (.ref 2))],
  [(93, (.ref 1))],
  [],
  [],
  [],
  [],
  [],
  [],
  [],
  [(46, (.ref 15)), (48, (.ref 16)), (54, (.ref 17)), (57, (.ref 18)), (60, (.ref 19)), (63, (.ref 20)), (65, (.ref 21))],
  [],
  []]
def zld (o i : Nat) : Option Value := zlk zldT o i
def zl2T : List (List (Nat × Int64)) := [[],
  [],
  [],
  [],
  [],
  [],
  [(78, 128)],
  [],
  [],
  [(90, 255), (92, 13), (94, 32), (96, 126)],
  [(13, 4294967295)],
  [],
  [],
  [],
  [],
  [],
  []]
def zl2 (o i : Nat) : Option Int64 := zlk zl2T o i
def zSR : List (Nat × Nat × String × Nat) := [(2, 25, "HDR", 1), (2, 95, "FSRET", 2), (2, 102, "0123456789ABCDEF", 3), (3, 34, "PID", 4), (3, 135, "PV1", 5), (3, 156, "\"\"", 6), (3, 109, "OBX", 7), (0, 194, "HDR", 1), (0, 207, "ENG", 8), (0, 215, "ACK", 9), (0, 217, "MSA", 10), (0, 219, "AA", 11), (0, 221, "AE", 12), (0, 223, "AR", 13), (0, 225, "", 14), (6, 93, "HDR", 1), (5, 33, "FSRET", 2), (14, 46, "ADT", 15), (14, 48, "A01", 16), (14, 54, "A02", 17), (14, 57, "A03", 18), (14, 60, "A08", 19), (14, 63, "ORU", 20), (14, 65, "R01", 21)]
def zSV (X : zX) : List (String × String × String × Value) := [("java/lang/String", "COMPACT_STRINGS", "Z", .int 1), ("BedMessages", "KINDS", "[LBedMessages$Kind;", .ref 75), ("BedMessages$1", "$SwitchMap$BedMessages$Kind", "[I", .ref 76), ("jdk/internal/util/Preconditions", "SIOOBE_FORMATTER", "Ljava/util/function/BiFunction;", X.2.2)]
def zslT : List (List (Nat × (Value × (String × String × String) × Bool))) := [[],
  [],
  [],
  [(48, (.ref 76, ("BedMessages$1", "$SwitchMap$BedMessages$Kind", "[I"), false))],
  [],
  [],
  [(80, (.ref 75, ("BedMessages", "KINDS", "[LBedMessages$Kind;"), true))],
  [],
  [],
  [],
  [],
  [(38, (.int 1, ("java/lang/String", "COMPACT_STRINGS", "Z"), false))],
  [],
  [],
  [],
  [],
  []]
def zsl (X : zX) (o i : Nat) : Option (Value × (String × String × String) × Bool) := if o = 11 ∧ i = 1053 then some (X.2.2, ("jdk/internal/util/Preconditions", "SIOOBE_FORMATTER", "Ljava/util/function/BiFunction;"), false) else zlk zslT o i
def zklT : List (List (Nat × (Nat × Bool))) := [[],
  [],
  [],
  [],
  [],
  [],
  [(84, (2, true)), (90, (3, true))],
  [],
  [],
  [],
  [],
  [(9, (0, false)), (15, (1, false))],
  [],
  [],
  [],
  [(7, (4, false))],
  []]
def zCF : List (Nat × Nat × Value) := [(1, 0, .ref 40), (1, 1, .int 0), (2, 0, .ref 41), (2, 1, .int 0), (3, 0, .ref 42), (3, 1, .int 0), (4, 0, .ref 43), (4, 1, .int 0), (5, 0, .ref 44), (5, 1, .int 0), (6, 0, .ref 45), (6, 1, .int 0), (7, 0, .ref 46), (7, 1, .int 0), (8, 0, .ref 47), (8, 1, .int 0), (9, 0, .ref 48), (9, 1, .int 0), (10, 0, .ref 49), (10, 1, .int 0), (11, 0, .ref 50), (11, 1, .int 0), (12, 0, .ref 51), (12, 1, .int 0), (13, 0, .ref 52), (13, 1, .int 0), (14, 0, .ref 53), (14, 1, .int 0), (15, 0, .ref 54), (15, 1, .int 0), (16, 0, .ref 55), (16, 1, .int 0), (17, 0, .ref 56), (17, 1, .int 0), (18, 0, .ref 57), (18, 1, .int 0), (19, 0, .ref 58), (19, 1, .int 0), (20, 0, .ref 59), (20, 1, .int 0), (21, 0, .ref 60), (21, 1, .int 0), (70, 2, .ref 15), (70, 3, .ref 16), (70, 4, .int 0), (71, 2, .ref 15), (71, 3, .ref 17), (71, 4, .int 1), (72, 2, .ref 15), (72, 3, .ref 18), (72, 4, .int 2), (73, 2, .ref 15), (73, 3, .ref 19), (73, 4, .int 3), (74, 2, .ref 20), (74, 3, .ref 21), (74, 4, .int 4)]
def zfn (k : Nat) : String × String × String := match k with
  | 0 => ("java/lang/String", "value", "[B")
  | 1 => ("java/lang/String", "coder", "B")
  | 2 => ("BedMessages$Kind", "group", "Ljava/lang/String;")
  | 3 => ("BedMessages$Kind", "event", "Ljava/lang/String;")
  | _ => ("java/lang/Enum", "ordinal", "I")
def zcf (T : List (Nat × Nat × Value)) (a k : Nat) : Option Value := match T with
  | [] => none
  | e :: r => if e.1 = a ∧ e.2.1 = k then some e.2.2 else zcf r a k
theorem zcf_mem {T : List (Nat × Nat × Value)} {a k : Nat} {v : Value} (h : zcf T a k = some v) : (a, k, v) ∈ T := by
  induction T with
  | nil => cases h
  | cons e r ih =>
    rw [zcf] at h
    split at h
    · rename_i he
      cases h
      obtain ⟨rfl, rfl⟩ := he
      exact List.mem_cons_self
    · exact List.mem_cons_of_mem _ (ih h)
def zkf (o i a : Nat) : Option Value := match zlk zklT o i with
  | some q => zcf zCF a q.1
  | none => none
def zCO : List (Nat × Nat) := [(1, 11), (2, 11), (3, 11), (4, 11), (5, 11), (6, 11), (7, 11), (8, 11), (9, 11), (10, 11), (11, 11), (12, 11), (13, 11), (14, 11), (15, 11), (16, 11), (17, 11), (18, 11), (19, 11), (20, 11), (21, 11), (70, 14), (71, 14), (72, 14), (73, 14), (74, 14)]
def zko (b : Nat) : Option Nat := zlook zCO b
def zbyt (i : Nat) : List Int32 := match i with
  | 40 => [72, 68, 82]
  | 41 => [70, 83, 82, 69, 84]
  | 42 => [48, 49, 50, 51, 52, 53, 54, 55, 56, 57, 65, 66, 67, 68, 69, 70]
  | 43 => [80, 73, 68]
  | 44 => [80, 86, 49]
  | 45 => [34, 34]
  | 46 => [79, 66, 88]
  | 47 => [69, 78, 71]
  | 48 => [65, 67, 75]
  | 49 => [77, 83, 65]
  | 50 => [65, 65]
  | 51 => [65, 69]
  | 52 => [65, 82]
  | 53 => []
  | 54 => [65, 68, 84]
  | 55 => [65, 48, 49]
  | 56 => [65, 48, 50]
  | 57 => [65, 48, 51]
  | 58 => [65, 48, 56]
  | 59 => [79, 82, 85]
  | 60 => [82, 48, 49]
  | _ => []
def zka (X : zX) (a : Nat) : Option (Nat × Nat × (Nat → Value)) :=
  if a = 0 then some (0, X.1, fun j => .int (X.2.1 j)) else
  if a = 75 then some (6, 5, fun j => .ref (70 + j)) else
  if a = 76 then some (0, 5, fun j => .int (([1, 2, 3, 4, 0] : List Int32).getD j 0)) else
  if 40 ≤ a ∧ a < 61 then some (4, (zbyt a).length, fun j => .int ((zbyt a).getD j 0)) else none
def zkty (t : Nat) : FieldType := match t with
  | 0 => .int
  | 1 => .char
  | 2 => .long
  | 3 => .boolean
  | 4 => .byte
  | _ => .object "BedMessages$Kind"
def znF : List (String × Nat × String × String × String × String) := [("BedMessages$Frame", 61, "BedMessages$Chars", "length", "I", "BedMessages"), ("BedMessages", 117, "BedMessages$Chars", "length", "I", "BedMessages"), ("BedMessages", 75, "BedMessages$Frame", "typed", "LBedMessages$Chars;", "BedMessages"), ("BedMessages", 157, "BedMessages$Measured", "count", "I", "BedMessages"), ("BedMessages$Frame", 31, "BedMessages$Message", "separators", "LBedMessages$Separators;", "BedMessages"), ("BedMessages", 200, "BedMessages$Message", "separators", "LBedMessages$Separators;", "BedMessages"), ("BedMessages$Frame", 53, "BedMessages$Message", "segmentCount", "I", "BedMessages"), ("BedMessages", 160, "BedMessages$Message", "segmentCount", "I", "BedMessages"), ("BedMessages$Message", 80, "BedMessages", "KINDS", "[LBedMessages$Kind;", "BedMessages"), ("BedMessages", 138, "BedMessages$Patient", "family", "LBedMessages$Chars;", "BedMessages"), ("BedMessages$Hospital", 140, "BedMessages$Patient", "family", "LBedMessages$Chars;", "BedMessages"), ("BedMessages", 141, "BedMessages$Patient", "first", "LBedMessages$Chars;", "BedMessages"), ("BedMessages$Hospital", 148, "BedMessages$Patient", "first", "LBedMessages$Chars;", "BedMessages"), ("BedMessages$Hospital", 102, "BedMessages$Patient", "measured", "LBedMessages$Measured;", "BedMessages"), ("BedMessages", 144, "BedMessages$Patient", "measured", "LBedMessages$Measured;", "BedMessages"), ("BedMessages$Hospital", 82, "BedMessages$Patient", "bed", "I", "BedMessages"), ("BedMessages", 130, "BedMessages$Patient", "bed", "I", "BedMessages"), ("BedMessages$Message", 84, "BedMessages$Kind", "group", "Ljava/lang/String;", "BedMessages"), ("BedMessages$Message", 90, "BedMessages$Kind", "event", "Ljava/lang/String;", "BedMessages")]
def zmlT : List (List (Nat × (Nat × Nat × Nat))) := [[(3, (6, 0, 0)), (11, (5, 38, 0)), (18, (5, 45, 0)), (25, (5, 63, 0)), (32, (5, 66, 0)), (39, (4, 31, 1)), (51, (5, 73, 0)), (67, (2, 2, 2)), (71, (2, 3, 1)), (78, (0, 32, 0)), (82, (0, 33, 1)), (85, (0, 34, 0)), (88, (0, 39, 1)), (92, (0, 10, 0)), (95, (0, 77, 0)), (99, (0, 64, 1)), (103, (0, 46, 1)), (106, (0, 65, 2)), (110, (0, 13, 0)), (113, (2, 12, 1)), (120, (0, 36, 1)), (123, (0, 51, 1)), (126, (0, 50, 1)), (135, (0, 62, 0)), (148, (2, 11, 2)), (152, (0, 94, 1)), (163, (0, 78, 4)), (166, (0, 84, 2)), (169, (0, 67, 2)), (173, (0, 68, 0)), (177, (0, 88, 2)), (181, (2, 4, 3)), (185, (2, 7, 1)), (188, (2, 8, 1)), (191, (2, 9, 1)), (196, (0, 37, 1)), (203, (0, 71, 1)), (209, (0, 14, 1)), (212, (0, 15, 0)), (227, (0, 70, 1)), (228, (0, 85, 2))],
  [(3, (6, 0, 0)), (19, (0, 163, 0)), (24, (0, 165, 1)), (28, (0, 33, 1)), (32, (0, 36, 1))],
  [(3, (6, 0, 0)), (11, (4, 31, 1)), (20, (0, 74, 0)), (27, (0, 35, 1)), (35, (0, 36, 1)), (39, (0, 67, 2)), (45, (0, 68, 0)), (49, (0, 40, 1)), (57, (0, 77, 0)), (64, (0, 41, 3)), (68, (0, 42, 1)), (72, (0, 75, 0)), (75, (0, 76, 1)), (78, (0, 43, 3)), (81, (3, 7, 1)), (84, (3, 9, 1)), (87, (0, 70, 1)), (88, (0, 69, 1)), (91, (0, 44, 2)), (97, (0, 168, 1)), (104, (3, 4, 3))],
  [(3, (6, 0, 0)), (23, (5, 89, 0)), (28, (0, 80, 0)), (36, (0, 82, 2)), (40, (2, 47, 2)), (44, (2, 48, 1)), (53, (8, 175, 0)), (59, (0, 49, 4)), (63, (0, 55, 2)), (67, (0, 57, 1)), (71, (0, 58, 3)), (75, (0, 59, 2)), (78, (0, 50, 1)), (86, (0, 51, 1)), (89, (5, 95, 0)), (90, (0, 52, 3)), (94, (2, 53, 3)), (98, (0, 56, 1)), (105, (0, 90, 1)), (111, (0, 86, 1)), (114, (0, 78, 4)), (117, (2, 60, 2)), (121, (0, 61, 3)), (125, (0, 83, 2)), (128, (3, 4, 3)), (132, (0, 84, 2)), (137, (0, 79, 1)), (144, (2, 54, 3)), (151, (0, 34, 0)), (158, (0, 81, 2)), (162, (0, 85, 2)), (166, (0, 87, 1)), (169, (0, 91, 1)), (173, (0, 93, 2))],
  [(3, (6, 0, 0)), (23, (3, 12, 1))],
  [(3, (6, 0, 0)), (15, (0, 69, 1)), (19, (3, 4, 3)), (23, (3, 6, 1)), (27, (0, 33, 1)), (35, (0, 165, 1))],
  [(5, (6, 0, 0)), (13, (5, 66, 0)), (32, (0, 76, 1)), (36, (7, 0, 2)), (42, (0, 79, 1)), (46, (0, 163, 0)), (51, (0, 165, 1)), (55, (0, 33, 1)), (60, (3, 9, 1)), (64, (0, 78, 4)), (68, (3, 11, 2)), (71, (0, 81, 2)), (75, (3, 6, 1)), (95, (0, 37, 1)), (99, (0, 71, 1)), (103, (0, 72, 2)), (107, (0, 70, 1))],
  [(3, (6, 0, 0)), (22, (0, 92, 1))],
  [(3, (6, 0, 0)), (11, (4, 31, 1)), (25, (5, 89, 0))],
  [(1, (6, 0, 0)), (102, (2, 104, 1)), (106, (2, 105, 1)), (109, (2, 106, 1)), (115, (0, 102, 1)), (119, (2, 103, 1)), (123, (0, 111, 1)), (127, (2, 112, 1)), (131, (0, 110, 0)), (135, (0, 113, 4)), (139, (0, 109, 0)), (142, (0, 108, 0)), (145, (0, 116, 1)), (149, (0, 117, 2)), (153, (0, 115, 5)), (157, (0, 120, 4)), (161, (0, 124, 2)), (165, (0, 122, 4)), (169, (0, 128, 1)), (172, (0, 129, 1)), (175, (0, 130, 1)), (179, (0, 134, 2)), (182, (0, 132, 2)), (186, (0, 133, 2)), (190, (0, 100, 0)), (193, (0, 101, 0)), (196, (0, 107, 0)), (199, (0, 114, 0)), (202, (0, 123, 1)), (205, (0, 125, 1)), (208, (0, 126, 1)), (211, (0, 127, 0)), (214, (0, 131, 1)), (217, (0, 136, 3)), (227, (0, 140, 1)), (230, (0, 139, 3)), (234, (0, 141, 0)), (244, (0, 99, 0)), (251, (0, 118, 0)), (254, (0, 119, 0)), (257, (0, 121, 1)), (260, (0, 135, 1)), (264, (0, 137, 1)), (267, (0, 138, 1)), (270, (0, 142, 0)), (273, (2, 143, 1)), (276, (2, 150, 1)), (282, (0, 159, 1)), (285, (0, 161, 1)), (288, (0, 160, 1))],
  [(9, (4, 0, 0)), (12, (4, 96, 0)), (15, (0, 1, 1)), (19, (0, 97, 1)), (20, (0, 5, 0)), (24, (0, 98, 0)), (25, (0, 16, 0)), (28, (0, 144, 0)), (29, (0, 17, 0)), (33, (0, 145, 0)), (34, (0, 18, 0)), (37, (0, 146, 0)), (38, (0, 19, 1)), (42, (0, 147, 1)), (43, (0, 20, 2)), (47, (0, 148, 2)), (48, (0, 21, 1)), (51, (0, 149, 1)), (52, (0, 22, 0)), (55, (0, 151, 0)), (56, (0, 23, 1)), (60, (0, 152, 1)), (61, (0, 24, 3)), (65, (0, 153, 3)), (66, (0, 25, 3)), (70, (0, 154, 3)), (71, (0, 26, 1)), (74, (0, 155, 1)), (75, (0, 27, 0)), (78, (0, 156, 0)), (79, (0, 28, 5)), (83, (0, 157, 5)), (84, (0, 29, 5)), (88, (0, 158, 5)), (89, (0, 30, 1)), (92, (0, 162, 1))],
  [(335, (0, 164, 0)), (492, (0, 166, 0)), (495, (2, 170, 2)), (505, (0, 163, 0)), (633, (0, 169, 2)), (637, (2, 171, 4)), (1059, (2, 174, 3))],
  [(9, (2, 167, 2)), (38, (9, 0, 2)), (88, (2, 172, 1)), (92, (7, 0, 2)), (95, (2, 173, 4))],
  [],
  [],
  [],
  []]
def zml (o i : Nat) : Option (Nat × Nat × Nat) := zlk zmlT o i
def znM : List (String × Nat × MethodName × String) := [("BedMessages", 11, ⟨"BedMessages$Frame", "<init>", "()V"⟩, "BedMessages"), ("BedMessages", 18, ⟨"BedMessages$Hospital", "<init>", "()V"⟩, "BedMessages"), ("BedMessages$Hospital", 23, ⟨"BedMessages$Measured", "<init>", "()V"⟩, "BedMessages"), ("BedMessages", 25, ⟨"BedMessages$Ledger", "<init>", "()V"⟩, "BedMessages"), ("BedMessages", 32, ⟨"BedMessages$Separators", "<init>", "()V"⟩, "BedMessages"), ("BedMessages", 51, ⟨"BedMessages$Message", "<init>", "()V"⟩, "BedMessages"), ("BedMessages$Message", 13, ⟨"BedMessages$Separators", "<init>", "()V"⟩, "BedMessages"), ("BedMessages$Separators", 19, ⟨"BedMessages", "isBetween", "(III)Z"⟩, "BedMessages"), ("BedMessages$Separators", 23, ⟨"BedMessages", "isLetterOrDigit", "(I)Z"⟩, "BedMessages"), ("BedMessages$Frame", 81, ⟨"BedMessages", "isCapital", "(I)Z"⟩, "BedMessages"), ("BedMessages$Frame", 84, ⟨"BedMessages", "isDigit", "(I)Z"⟩, "BedMessages"), ("BedMessages$Frame", 104, ⟨"BedMessages", "isBetween", "(III)Z"⟩, "BedMessages"), ("BedMessages$Message", 75, ⟨"BedMessages", "isLetterOrDigit", "(I)Z"⟩, "BedMessages"), ("BedMessages$Message", 60, ⟨"BedMessages", "isDigit", "(I)Z"⟩, "BedMessages"), ("BedMessages$Hospital", 128, ⟨"BedMessages", "isBetween", "(III)Z"⟩, "BedMessages"), ("BedMessages$Hospital", 89, ⟨"BedMessages$Patient", "<init>", "()V"⟩, "BedMessages"), ("BedMessages$Patient", 25, ⟨"BedMessages$Measured", "<init>", "()V"⟩, "BedMessages"), ("BedMessages$Message", 68, ⟨"BedMessages", "codeOf", "(II)I"⟩, "BedMessages"), ("BedMessages$Ledger", 23, ⟨"BedMessages", "receiptFor", "(I)I"⟩, "BedMessages")]
def zmpT : List (List (Nat × List Nat)) := [[(3, [83]), (11, [0, 89, 62]), (18, [0, 116, 64]), (25, [0, 152, 66]), (32, [0, 169, 67]), (39, [177, 95, 63]), (51, [0, 181, 68]), (67, [241, 242, 61]), (71, [244, 245, 61]), (78, [250, 251, 252, 63]), (82, [254, 255, 256, 63]), (85, [262, 263, 264, 63]), (88, [266, 267, 268, 62]), (92, [469, 471, 5, 61]), (95, [473, 456, 457, 68]), (99, [474, 475, 476, 66]), (103, [478, 479, 480, 64]), (106, [643, 644, 645, 66]), (110, [650, 652, 15, 61]), (113, [679, 648, 61]), (120, [700, 290, 291, 63]), (123, [705, 536, 537, 64]), (126, [710, 532, 533, 64]), (135, [715, 716, 717, 64]), (148, [731, 618, 61]), (152, [732, 733, 734, 65]), (163, [675, 460, 461, 68]), (166, [748, 511, 512, 68]), (169, [753, 333, 334, 67]), (173, [754, 337, 338, 67]), (177, [755, 756, 757, 68]), (181, [247, 248, 61]), (185, [348, 349, 61]), (188, [351, 352, 61]), (191, [354, 355, 61]), (196, [655, 656, 657, 63]), (203, [660, 661, 662, 67]), (209, [666, 668, 16, 61]), (212, [671, 673, 17, 61]), (227, [670, 385, 386, 67]), (228, [676, 584, 585, 68])],
  [(3, [97]), (19, [279, 280, 281, 70]), (24, [293, 294, 295, 70]), (28, [659, 255, 256, 63]), (32, [289, 290, 291, 63])],
  [(3, [91]), (11, [94, 95, 63]), (20, [270, 271, 272, 68]), (27, [275, 276, 277, 63]), (35, [331, 290, 291, 63]), (39, [332, 333, 334, 67]), (45, [336, 337, 338, 67]), (49, [357, 359, 0, 62]), (57, [455, 456, 457, 68]), (64, [361, 363, 1, 62]), (68, [365, 367, 2, 62]), (72, [371, 372, 373, 68]), (75, [379, 376, 377, 68]), (78, [380, 382, 3, 62]), (81, [0, 349, 61]), (84, [0, 355, 61]), (87, [384, 385, 386, 67]), (88, [388, 341, 342, 67]), (91, [389, 391, 4, 62]), (97, [394, 395, 396, 70]), (104, [0, 248, 61])],
  [(3, [118]), (23, [0, 124, 65]), (28, [482, 483, 484, 68]), (36, [495, 496, 497, 68]), (40, [500, 501, 64]), (44, [514, 515, 64]), (53, [521]), (59, [527, 529, 6, 64]), (63, [588, 590, 8, 64]), (67, [596, 598, 10, 64]), (71, [600, 602, 11, 64]), (75, [604, 606, 12, 64]), (78, [531, 532, 533, 64]), (86, [535, 536, 537, 64]), (89, [0, 541, 77]), (90, [570, 572, 7, 64]), (94, [574, 575, 64]), (98, [592, 594, 9, 64]), (105, [608, 609, 610, 65]), (111, [613, 614, 615, 68]), (114, [503, 460, 461, 68]), (117, [620, 621, 64]), (121, [627, 629, 13, 64]), (125, [504, 505, 506, 68]), (128, [0, 248, 61]), (132, [510, 511, 512, 68]), (137, [518, 464, 465, 68]), (144, [577, 578, 64]), (151, [580, 263, 264, 63]), (158, [582, 489, 490, 68]), (162, [583, 584, 585, 68]), (166, [623, 624, 625, 68]), (169, [631, 632, 633, 65]), (173, [639, 640, 641, 65])],
  [(3, [154]), (23, [0, 648, 61])],
  [(3, [171]), (15, [340, 341, 342, 67]), (19, [0, 248, 61]), (23, [0, 346, 61]), (27, [664, 255, 256, 63]), (35, [767, 294, 295, 70])],
  [(5, [183]), (13, [0, 169, 67]), (32, [375, 376, 377, 68]), (36, [499, 410, 74]), (42, [463, 464, 465, 68]), (46, [492, 280, 281, 70]), (51, [493, 294, 295, 70]), (55, [587, 255, 256, 63]), (60, [0, 355, 61]), (64, [459, 460, 461, 68]), (68, [0, 618, 61]), (71, [488, 489, 490, 68]), (75, [0, 346, 61]), (95, [760, 656, 657, 63]), (99, [761, 661, 662, 67]), (103, [762, 763, 764, 67]), (107, [768, 385, 386, 67])],
  [(3, [126]), (22, [635, 637, 14, 65])],
  [(3, [543]), (11, [545, 95, 63]), (25, [0, 124, 65])],
  [(1, [778]), (102, [914, 915, 69]), (106, [917, 918, 69]), (109, [920, 921, 69]), (115, [907, 909, 21, 69]), (119, [911, 912, 69]), (123, [939, 941, 26, 69]), (127, [943, 944, 69]), (131, [935, 937, 25, 69]), (135, [946, 948, 27, 69]), (139, [931, 933, 24, 69]), (142, [927, 929, 23, 69]), (145, [958, 960, 30, 69]), (149, [962, 964, 31, 69]), (153, [954, 956, 29, 69]), (157, [974, 976, 34, 69]), (161, [990, 992, 38, 69]), (165, [982, 984, 36, 69]), (169, [1006, 1008, 42, 69]), (172, [1010, 1012, 43, 69]), (175, [1014, 1016, 44, 69]), (179, [1030, 1032, 48, 69]), (182, [1022, 1024, 46, 69]), (186, [1026, 1028, 47, 69]), (190, [899, 901, 19, 69]), (193, [903, 905, 20, 69]), (196, [923, 925, 22, 69]), (199, [950, 952, 28, 69]), (202, [986, 988, 37, 69]), (205, [994, 996, 39, 69]), (208, [998, 1000, 40, 69]), (211, [1002, 1004, 41, 69]), (214, [1018, 1020, 45, 69]), (217, [1038, 1040, 50, 69]), (227, [1054, 1056, 54, 69]), (230, [1050, 1052, 53, 69]), (234, [1058, 1060, 55, 69]), (244, [895, 897, 18, 69]), (251, [966, 968, 32, 69]), (254, [970, 972, 33, 69]), (257, [978, 980, 35, 69]), (260, [1034, 1036, 49, 69]), (264, [1042, 1044, 51, 69]), (267, [1046, 1048, 52, 69]), (270, [1062, 1064, 56, 69]), (273, [1066, 1067, 69]), (276, [1093, 1094, 69]), (282, [1128, 1130, 57, 69]), (285, [1136, 1138, 59, 69]), (288, [1132, 1134, 58, 69])],
  [(9, [80, 81, 61]), (12, [775, 776, 69]), (15, [237, 238, 239, 61]), (19, [883, 884, 885, 69]), (20, [258, 259, 260, 61]), (24, [891, 892, 893, 69]), (25, [684, 685, 686, 61]), (28, [1069, 1070, 1071, 69]), (29, [688, 689, 690, 61]), (33, [1073, 1074, 1075, 69]), (34, [692, 693, 694, 61]), (37, [1077, 1078, 1079, 69]), (38, [696, 697, 698, 61]), (42, [1081, 1082, 1083, 69]), (43, [701, 702, 703, 61]), (47, [1085, 1086, 1087, 69]), (48, [706, 707, 708, 61]), (51, [1089, 1090, 1091, 69]), (52, [711, 712, 713, 61]), (55, [1096, 1097, 1098, 69]), (56, [719, 720, 721, 61]), (60, [1100, 1101, 1102, 69]), (61, [723, 724, 725, 61]), (65, [1104, 1105, 1106, 69]), (66, [727, 728, 729, 61]), (70, [1108, 1109, 1110, 69]), (71, [736, 737, 738, 61]), (74, [1112, 1113, 1114, 69]), (75, [740, 741, 742, 61]), (78, [1116, 1117, 1118, 69]), (79, [744, 745, 746, 61]), (83, [1120, 1121, 1122, 69]), (84, [749, 750, 751, 61]), (88, [1124, 1125, 1126, 69]), (89, [769, 770, 771, 61]), (92, [1140, 1141, 1142, 69])],
  [(335, [283, 284, 285, 70]), (492, [297, 298, 299, 70]), (495, [301, 302, 71]), (505, [402, 280, 281, 70]), (633, [398, 399, 400, 70]), (637, [403, 404, 71]), (1059, [309, 310, 72])],
  [(9, [304, 305, 70]), (38, [412, 413, 74]), (88, [406, 407, 71]), (92, [409, 410, 74]), (95, [415, 416, 71])],
  [],
  [],
  [],
  []]
def zfpT : List (List (Nat × Nat)) := [[(12, 206), (19, 207), (26, 208), (33, 209), (42, 210), (46, 211), (52, 212), (56, 213), (59, 214), (63, 215)],
  [(9, 99), (15, 98)],
  [(14, 108)],
  [(9, 139), (17, 140), (24, 141), (48, 519)],
  [(9, 155), (15, 156), (19, 157)],
  [(9, 172)],
  [(14, 186), (18, 189), (22, 190), (25, 191), (29, 192)],
  [(9, 127), (15, 128), (18, 129)],
  [(14, 548), (20, 551), (26, 554), (30, 557)],
  [(7, 780), (13, 782), (17, 783), (20, 784), (23, 785), (26, 786), (29, 787), (32, 788), (35, 789), (38, 790), (41, 791), (44, 792), (47, 793), (50, 794), (53, 799), (56, 801), (59, 802), (62, 803), (66, 804), (69, 805), (72, 806), (75, 807), (78, 808), (81, 809), (84, 811), (87, 812), (98, 779), (112, 781), (221, 800), (224, 798), (237, 795), (241, 797), (248, 796), (279, 810)],
  [],
  [(9, 1145), (15, 1146), (38, 287), (1053, 307)],
  [],
  [],
  [],
  [(7, 1149)],
  []]
def zcpL : List Nat := [82, 240, 243, 246, 249, 261, 347, 350, 353, 356, 472, 619, 649, 653, 669, 674, 687, 691, 695, 699, 704, 709, 714, 722, 726, 730, 739, 743, 747, 752, 772, 96, 253, 257, 265, 278, 292, 658, 90, 269, 360, 364, 368, 383, 392, 117, 481, 502, 516, 530, 534, 538, 573, 576, 579, 591, 595, 599, 603, 607, 622, 630, 718, 153, 477, 646, 170, 335, 339, 343, 387, 663, 765, 182, 273, 374, 378, 458, 462, 466, 485, 491, 498, 507, 513, 586, 616, 626, 758, 125, 611, 634, 638, 642, 735, 542, 777, 886, 894, 898, 902, 906, 910, 913, 916, 919, 922, 926, 930, 934, 938, 942, 945, 949, 953, 957, 961, 965, 969, 973, 977, 981, 985, 989, 993, 997, 1001, 1005, 1009, 1013, 1017, 1021, 1025, 1029, 1033, 1037, 1041, 1045, 1049, 1053, 1057, 1061, 1065, 1068, 1072, 1076, 1080, 1084, 1088, 1092, 1095, 1099, 1103, 1107, 1111, 1115, 1119, 1123, 1127, 1131, 1135, 1139, 1143, 282, 286, 296, 300, 306, 397, 401, 303, 405, 408, 417, 311, 526]
def zcp (j : Nat) : Nat := zcpL.getD j 0
def zcqT : List (List (Nat × Nat)) := [[(9, 86), (16, 113), (23, 149), (30, 166), (37, 176), (49, 178)],
  [],
  [(9, 92)],
  [(15, 119), (21, 121)],
  [],
  [],
  [(11, 184)],
  [],
  [(9, 544), (23, 546)],
  [],
  [(7, 78), (10, 773)],
  [],
  [],
  [],
  [],
  [],
  []]
def zlqT : List (List (Nat × Nat)) := [[],
  [],
  [],
  [],
  [],
  [],
  [(78, 468)],
  [],
  [],
  [(90, 887), (92, 888), (94, 889), (96, 890)],
  [(13, 1144)],
  [],
  [],
  [],
  [],
  [],
  []]
def zlyL : List (List Nat) := [[216, 218, 220, 222, 224, 226, 228, 230, 232, 234], [102, 104], [110], [142, 144, 146], [158, 160, 162], [173], [195, 197, 199, 201, 203], [131, 133, 135], [560, 562, 564, 566], [813, 815, 817, 819, 821, 823, 825, 827, 829, 831, 833, 835, 837, 839, 841, 843, 845, 847, 849, 851, 853, 855, 857, 859, 861, 863, 865, 867, 869, 871, 873, 875, 877, 879]]
def zipL : List (Nat × Nat) := [(79, 61), (93, 63), (87, 62), (114, 64), (150, 66), (167, 67), (179, 68), (122, 65), (539, 77), (774, 69)]
end
section
/-! ONE STEP of the pure machine (no calls, no returns) -/
def zgo (pc : Nat) (off : Int) (L : zL) (st : List Value) (h : zH) : Option zF := if 0 ≤ (pc : Int) + off then some (((pc : Int) + off).toNat, L, st, h) else none
def zs_il (n pc i : Nat) (L : zL) (st : List Value) (h : zH) : Option zF := match L[i]? with
  | some (some (.int x)) => some (pc + n, L, .int x :: st, h)
  | _ => none
def zs_jl (n pc i : Nat) (L : zL) (st : List Value) (h : zH) : Option zF := match L[i]? with
  | some (some (.long x)) => some (pc + n, L, .long x :: st, h)
  | _ => none
def zs_al (n pc i : Nat) (L : zL) (st : List Value) (h : zH) : Option zF := match L[i]? with
  | some (some (.ref x)) => some (pc + n, L, .ref x :: st, h)
  | some (some .null) => some (pc + n, L, .null :: st, h)
  | _ => none
def zs_is (n pc i : Nat) (L : zL) (st : List Value) (h : zH) : Option zF := match st with
  | .int x :: r => (match zst1 L i (.int x) with
    | some L' => some (pc + n, L', r, h)
    | none => none)
  | _ => none
def zs_js (n pc i : Nat) (L : zL) (st : List Value) (h : zH) : Option zF := match st with
  | .long x :: r => (match zst2 L i (.long x) with
    | some L' => some (pc + n, L', r, h)
    | none => none)
  | _ => none
def zs_as (n pc i : Nat) (L : zL) (st : List Value) (h : zH) : Option zF := match st with
  | .ref x :: r => (match zst1 L i (.ref x) with
    | some L' => some (pc + n, L', r, h)
    | none => none)
  | .null :: r => (match zst1 L i .null with
    | some L' => some (pc + n, L', r, h)
    | none => none)
  | _ => none
def zs_inc (pc i : Nat) (k : Int) (L : zL) (st : List Value) (h : zH) : Option zF := match L[i]? with
  | some (some (.int x)) => (match zst1 L i (.int (x + Int32.ofInt k)) with
    | some L' => some (pc + 3, L', st, h)
    | none => none)
  | _ => none
def zs_ii (pc : Nat) (L : zL) (st : List Value) (h : zH) (f : Int32 → Int32 → Int32) : Option zF := match st with
  | .int y :: .int x :: r => some (pc + 1, L, .int (f x y) :: r, h)
  | _ => none
def zs_dv (pc : Nat) (L : zL) (st : List Value) (h : zH) (f : Int32 → Int32 → Int32) : Option zF := match st with
  | .int y :: .int x :: r => if y = 0 then none else some (pc + 1, L, .int (f x y) :: r, h)
  | _ => none
def zs_jj (pc : Nat) (L : zL) (st : List Value) (h : zH) (f : Int64 → Int64 → Value) : Option zF := match st with
  | .long y :: .long x :: r => some (pc + 1, L, f x y :: r, h)
  | _ => none
def zs_ji (pc : Nat) (L : zL) (st : List Value) (h : zH) (f : Int64 → Int32 → Int64) : Option zF := match st with
  | .int y :: .long x :: r => some (pc + 1, L, .long (f x y) :: r, h)
  | _ => none
def zs_i1 (pc : Nat) (L : zL) (st : List Value) (h : zH) (f : Int32 → Value) : Option zF := match st with
  | .int x :: r => some (pc + 1, L, f x :: r, h)
  | _ => none
def zs_j1 (pc : Nat) (L : zL) (st : List Value) (h : zH) (f : Int64 → Value) : Option zF := match st with
  | .long x :: r => some (pc + 1, L, f x :: r, h)
  | _ => none
def zs_if (pc : Nat) (off : Int) (L : zL) (st : List Value) (h : zH) (f : Int32 → Bool) : Option zF := match st with
  | .int x :: r => if 0 ≤ (pc : Int) + off then (if f x = true then some (((pc : Int) + off).toNat, L, r, h) else some (pc + 3, L, r, h)) else none
  | _ => none
def zs_ic (pc : Nat) (off : Int) (L : zL) (st : List Value) (h : zH) (f : Int32 → Int32 → Bool) : Option zF := match st with
  | .int y :: .int x :: r => if 0 ≤ (pc : Int) + off then (if f x y = true then some (((pc : Int) + off).toNat, L, r, h) else some (pc + 3, L, r, h)) else none
  | _ => none
def zs_nu (pc : Nat) (off : Int) (L : zL) (st : List Value) (h : zH) : Option zF := match st with
  | .null :: r => zgo pc off L r h
  | .ref _ :: r => some (pc + 3, L, r, h)
  | _ => none
def zs_nn (pc : Nat) (off : Int) (L : zL) (st : List Value) (h : zH) : Option zF := match st with
  | .null :: r => some (pc + 3, L, r, h)
  | .ref _ :: r => zgo pc off L r h
  | _ => none
def zs_tab (pc : Nat) (dflt lo hi : Int) (offs : Array Int) (L : zL) (st : List Value) (h : zH) : Option zF := match st with
  | .int x :: r => if x.toInt < lo ∨ hi < x.toInt then zgo pc dflt L r h else (match offs[(x.toInt - lo).toNat]? with
    | some off => zgo pc off L r h
    | none => none)
  | _ => none
def zs_dup (pc : Nat) (L : zL) (st : List Value) (h : zH) : Option zF := match st with
  | v :: r => if v.category = 1 then some (pc + 1, L, v :: v :: r, h) else none
  | _ => none
def zs_pop (pc : Nat) (L : zL) (st : List Value) (h : zH) : Option zF := match st with
  | v :: r => if v.category = 1 then some (pc + 1, L, r, h) else none
  | _ => none
def zs_dup2 (pc : Nat) (L : zL) (st : List Value) (h : zH) : Option zF := match st with
  | v :: w :: r => if v.category = 1 ∧ w.category = 1 then some (pc + 1, L, v :: w :: v :: w :: r, h) else none
  | _ => none
def zs_ldc (pc o idx : Nat) (L : zL) (st : List Value) (h : zH) : Option zF := match zld o idx with
  | some v => some (pc + 2, L, v :: st, h)
  | none => none
def zs_ldc2 (pc o idx : Nat) (L : zL) (st : List Value) (h : zH) : Option zF := match zl2 o idx with
  | some x => some (pc + 3, L, .long x :: st, h)
  | none => none
def zs_gets (pc o idx : Nat) (X : zX) (L : zL) (st : List Value) (h : zH) : Option zF := match zsl X o idx with
  | some q => some (pc + 3, L, q.1 :: st, h)
  | none => none
def zs_getf (pc o idx : Nat) (L : zL) (st : List Value) (h : zH) : Option zF := match st with
  | .ref a :: r => (match h.2.2 a with
    | some (.inr (ci, fs)) => (match zfl o idx with
      | some (ci', k, _) => if ci' = ci then (match fs[k]? with
        | some v => some (pc + 3, L, v :: r, h)
        | none => none) else none
      | none => none)
    | some (.inl _) => none
    | none => (match zkf o idx a with
      | some v => some (pc + 3, L, v :: r, h)
      | none => none))
  | _ => none
def zs_putf (ini : Bool) (pc o idx : Nat) (L : zL) (st : List Value) (h : zH) : Option zF := match st with
  | v :: .ref a :: r => (match h.2.2 a with
    | some (.inr (ci, fs)) => (match zfl o idx with
      | some (ci', k, ne) => if ci' = ci ∧ k < fs.length ∧ zfit (zty ci k) v = true ∧ (zfin ci k = false ∨ (ini = true ∧ ci = o ∧ ne = false)) then some (pc + 3, L, r, zwr h a (.inr (ci, fs.set k v))) else none
      | none => none)
    | _ => none)
  | _ => none
def zs_ald (pc t : Nat) (X : zX) (L : zL) (st : List Value) (h : zH) : Option zF := match st with
  | .int i :: .ref a :: r => (match h.2.2 a with
    | some (.inl (t', n, .inl f)) => if t' = t ∧ 0 ≤ i.toInt ∧ i.toInt < n then some (pc + 1, L, .int (f i.toNatClampNeg) :: r, h) else none
    | some _ => none
    | none => (match zka X a with
      | some (t', n, f) => if t' = t ∧ 0 ≤ i.toInt ∧ i.toInt < n then some (pc + 1, L, f i.toNatClampNeg :: r, h) else none
      | none => none))
  | _ => none
/-- bytes and booleans have one instruction -/
def zs_bld (pc : Nat) (X : zX) (L : zL) (st : List Value) (h : zH) : Option zF := match st with
  | .int i :: .ref a :: r => (match h.2.2 a with
    | some (.inl (t', n, .inl f)) => if t' = 3 ∧ 0 ≤ i.toInt ∧ i.toInt < n then some (pc + 1, L, .int (f i.toNatClampNeg) :: r, h) else none
    | some _ => none
    | none => (match zka X a with
      | some (t', n, f) => if t' = 4 ∧ 0 ≤ i.toInt ∧ i.toInt < n then some (pc + 1, L, f i.toNatClampNeg :: r, h) else none
      | none => none))
  | _ => none
def zs_jld (pc : Nat) (L : zL) (st : List Value) (h : zH) : Option zF := match st with
  | .int i :: .ref a :: r => (match h.2.2 a with
    | some (.inl (t', n, .inr (.inl f))) => if t' = 2 ∧ 0 ≤ i.toInt ∧ i.toInt < n then some (pc + 1, L, .long (f i.toNatClampNeg) :: r, h) else none
    | _ => none)
  | _ => none
def zs_rld (pc : Nat) (X : zX) (L : zL) (st : List Value) (h : zH) : Option zF := match st with
  | .int i :: .ref a :: r => (match h.2.2 a with
    | some (.inl (t', n, .inr (.inr (.inr (.inr f))))) => if t' = 5 ∧ 0 ≤ i.toInt ∧ i.toInt < n then some (pc + 1, L, va_rf (f i.toNatClampNeg) :: r, h) else none
    | some _ => none
    | none => (match zka X a with
      | some (t', n, f) => if t' = 6 ∧ 0 ≤ i.toInt ∧ i.toInt < n then some (pc + 1, L, f i.toNatClampNeg :: r, h) else none
      | none => none))
  | _ => none
def zs_ast (pc t : Nat) (ty : FieldType) (L : zL) (st : List Value) (h : zH) : Option zF := match st with
  | .int x :: .int i :: .ref a :: r => (match h.2.2 a with
    | some (.inl (t', n, .inl f)) => if t' = t ∧ 0 ≤ i.toInt ∧ i.toInt < n then some (pc + 1, L, r, zwr h a (.inl (t', n, .inl (upd f i.toNatClampNeg (vp_nar ty x))))) else none
    | _ => none)
  | _ => none
def zs_jst (pc : Nat) (L : zL) (st : List Value) (h : zH) : Option zF := match st with
  | .long x :: .int i :: .ref a :: r => (match h.2.2 a with
    | some (.inl (t', n, .inr (.inl f))) => if t' = 2 ∧ 0 ≤ i.toInt ∧ i.toInt < n then some (pc + 1, L, r, zwr h a (.inl (t', n, .inr (.inl (vp_updL f i.toNatClampNeg x))))) else none
    | _ => none)
  | _ => none
def zs_rst (pc : Nat) (L : zL) (st : List Value) (h : zH) : Option zF := match st with
  | .ref b :: .int i :: .ref a :: r => (match h.2.2 a, h.2.2 b with
    | some (.inl (t', n, .inr (.inr (.inr (.inr f))))), some (.inr (ci, _)) => if t' = 5 ∧ ci = zPat ∧ 0 ≤ i.toInt ∧ i.toInt < n then some (pc + 1, L, r, zwr h a (.inl (t', n, .inr (.inr (.inr (.inr (va_up f i.toNatClampNeg (some b)))))))) else none
    | _, _ => none)
  | _ => none
def zs_len (pc : Nat) (X : zX) (L : zL) (st : List Value) (h : zH) : Option zF := match st with
  | .ref a :: r => (match h.2.2 a with
    | some (.inl (t', q)) => if t' ≤ 5 then some (pc + 1, L, .int (Int32.ofNat q.1) :: r, h) else none
    | some (.inr _) => none
    | none => (match zka X a with
      | some (_, n, _) => some (pc + 1, L, .int (Int32.ofNat n) :: r, h)
      | none => none))
  | _ => none
def zs_newa (pc : Nat) (t : Nat) (q : Nat → vp_A) (L : zL) (st : List Value) (h : zH) : Option zF := match st with
  | .int n :: r => if 0 ≤ n.toInt ∧ n.toInt ≤ 5000 then some (pc + 2, L, .ref (zK + h.1) :: r, znew h n.toNatClampNeg (.inl (t, q n.toNatClampNeg))) else none
  | _ => none
def zs_anew (pc o idx : Nat) (L : zL) (st : List Value) (h : zH) : Option zF := match st with
  | .int n :: r => if zal o idx = true ∧ 0 ≤ n.toInt ∧ n.toInt ≤ 5000 then some (pc + 3, L, .ref (zK + h.1) :: r, znew h n.toNatClampNeg (.inl (5, n.toNatClampNeg, .inr (.inr (.inr (.inr (fun _ => none))))))) else none
  | _ => none
def zs_new (pc o idx : Nat) (L : zL) (st : List Value) (h : zH) : Option zF := match zcl o idx with
  | some ci => some (pc + 3, L, .ref (zK + h.1) :: st, znew h (zdef ci).length (.inr (ci, zdef ci)))
  | none => none
def zstep (X : zX) (ini : Bool) (o pc : Nat) (L : zL) (st : List Value) (h : zH) (i : Jvm.ClassFile.Instr) : Option zF := match i with
  | .iconst n => some (pc + 1, L, .int (Int32.ofInt n) :: st, h)
  | .bipush n => some (pc + 2, L, .int ((Int8.ofInt n).toInt32) :: st, h)
  | .sipush n => some (pc + 3, L, .int ((Int16.ofInt n).toInt32) :: st, h)
  | .lconst n => some (pc + 1, L, .long (Int64.ofNat (n : Nat)) :: st, h)
  | .aconst_null => some (pc + 1, L, .null :: st, h)
  | .ldc i => zs_ldc pc o i L st h
  | .ldc2_w i => zs_ldc2 pc o i L st h
  | .iload_n k => zs_il 1 pc k L st h
  | .iload k => zs_il 2 pc k L st h
  | .lload_n k => zs_jl 1 pc k L st h
  | .lload k => zs_jl 2 pc k L st h
  | .aload_n k => zs_al 1 pc k L st h
  | .aload k => zs_al 2 pc k L st h
  | .istore_n k => zs_is 1 pc k L st h
  | .istore k => zs_is 2 pc k L st h
  | .lstore_n k => zs_js 1 pc k L st h
  | .lstore k => zs_js 2 pc k L st h
  | .astore_n k => zs_as 1 pc k L st h
  | .astore k => zs_as 2 pc k L st h
  | .iinc i k => zs_inc pc i k L st h
  | .iadd => zs_ii pc L st h (fun x y => x + y)
  | .isub => zs_ii pc L st h (fun x y => x - y)
  | .imul => zs_ii pc L st h (fun x y => x * y)
  | .iand => zs_ii pc L st h (fun x y => x &&& y)
  | .ishr => zs_ii pc L st h (fun x y => x >>> (y &&& 31))
  | .idiv => zs_dv pc L st h (fun x y => x / y)
  | .irem => zs_dv pc L st h (fun x y => x - x / y * y)
  | .ladd => zs_jj pc L st h (fun x y => .long (x + y))
  | .lmul => zs_jj pc L st h (fun x y => .long (x * y))
  | .land => zs_jj pc L st h (fun x y => .long (x &&& y))
  | .lor => zs_jj pc L st h (fun x y => .long (x ||| y))
  | .lcmp => zs_jj pc L st h (fun x y => .int (lg_cmp x y))
  | .lshl => zs_ji pc L st h (fun x y => x <<< (y.toInt64 &&& 63))
  | .lushr => zs_ji pc L st h (fun x y => (x.toUInt64 >>> (y.toInt64.toUInt64 &&& Int64.toUInt64 63)).toInt64)
  | .i2l => zs_i1 pc L st h (fun x => .long x.toInt64)
  | .i2c => zs_i1 pc L st h (fun x => .int (x.toUInt32 % 65536).toInt32)
  | .l2i => zs_j1 pc L st h (fun x => .int x.toInt32)
  | .ifCond .eq off => zs_if pc off L st h (fun x => decide (x = 0))
  | .if_icmp .eq off => zs_ic pc off L st h (fun x y => decide (x = y))
  | .ifCond .ne off => zs_if pc off L st h (fun x => decide (¬ x = 0))
  | .if_icmp .ne off => zs_ic pc off L st h (fun x y => decide (¬ x = y))
  | .ifCond .lt off => zs_if pc off L st h (fun x => decide (x < 0))
  | .if_icmp .lt off => zs_ic pc off L st h (fun x y => decide (x < y))
  | .ifCond .ge off => zs_if pc off L st h (fun x => decide (0 ≤ x))
  | .if_icmp .ge off => zs_ic pc off L st h (fun x y => decide (y ≤ x))
  | .ifCond .gt off => zs_if pc off L st h (fun x => decide (0 < x))
  | .if_icmp .gt off => zs_ic pc off L st h (fun x y => decide (y < x))
  | .ifCond .le off => zs_if pc off L st h (fun x => decide (x ≤ 0))
  | .if_icmp .le off => zs_ic pc off L st h (fun x y => decide (x ≤ y))
  | .ifnull off => zs_nu pc off L st h
  | .ifnonnull off => zs_nn pc off L st h
  | .goto off => zgo pc off L st h
  | .tableswitch d lo hi offs => zs_tab pc d lo hi offs L st h
  | .dup => zs_dup pc L st h
  | .dup2 => zs_dup2 pc L st h
  | .pop => zs_pop pc L st h
  | .getfield i => zs_getf pc o i L st h
  | .putfield i => zs_putf ini pc o i L st h
  | .getstatic i => zs_gets pc o i X L st h
  | .iaload => zs_ald pc 0 X L st h
  | .caload => zs_ald pc 1 X L st h
  | .baload => zs_bld pc X L st h
  | .laload => zs_jld pc L st h
  | .aaload => zs_rld pc X L st h
  | .iastore => zs_ast pc 0 .int L st h
  | .castore => zs_ast pc 1 .char L st h
  | .bastore => zs_ast pc 3 .boolean L st h
  | .lastore => zs_jst pc L st h
  | .aastore => zs_rst pc L st h
  | .arraylength => zs_len pc X L st h
  | .newarray .int => zs_newa pc 0 (fun n => (n, .inl (fun _ => 0))) L st h
  | .newarray .char => zs_newa pc 1 (fun n => (n, .inl (fun _ => 0))) L st h
  | .newarray .long => zs_newa pc 2 (fun n => (n, .inr (.inl (fun _ => 0)))) L st h
  | .newarray .boolean => zs_newa pc 3 (fun n => (n, .inl (fun _ => 0))) L st h
  | .anewarray i => zs_anew pc o i L st h
  | .new i => zs_new pc o i L st h
  | _ => none
def zlen (i : Jvm.ClassFile.Instr) : Nat := match i with
  | .iconst _ => 1
  | .bipush _ => 2
  | .sipush _ => 3
  | .lconst _ => 1
  | .aconst_null => 1
  | .ldc _ => 2
  | .ldc2_w _ => 3
  | .iload_n _ => 1
  | .iload _ => 2
  | .lload_n _ => 1
  | .lload _ => 2
  | .aload_n _ => 1
  | .aload _ => 2
  | .istore_n _ => 1
  | .istore _ => 2
  | .lstore_n _ => 1
  | .lstore _ => 2
  | .astore_n _ => 1
  | .astore _ => 2
  | .iinc _ _ => 3
  | .iadd => 1
  | .isub => 1
  | .imul => 1
  | .iand => 1
  | .ishr => 1
  | .idiv => 1
  | .irem => 1
  | .ladd => 1
  | .lmul => 1
  | .land => 1
  | .lor => 1
  | .lcmp => 1
  | .lshl => 1
  | .lushr => 1
  | .i2l => 1
  | .i2c => 1
  | .l2i => 1
  | .ifCond .eq _ => 3
  | .if_icmp .eq _ => 3
  | .ifCond .ne _ => 3
  | .if_icmp .ne _ => 3
  | .ifCond .lt _ => 3
  | .if_icmp .lt _ => 3
  | .ifCond .ge _ => 3
  | .if_icmp .ge _ => 3
  | .ifCond .gt _ => 3
  | .if_icmp .gt _ => 3
  | .ifCond .le _ => 3
  | .if_icmp .le _ => 3
  | .ifnull _ => 3
  | .ifnonnull _ => 3
  | .goto _ => 3
  | .dup => 1
  | .dup2 => 1
  | .pop => 1
  | .getfield _ => 3
  | .putfield _ => 3
  | .getstatic _ => 3
  | .iaload => 1
  | .caload => 1
  | .baload => 1
  | .laload => 1
  | .aaload => 1
  | .iastore => 1
  | .castore => 1
  | .bastore => 1
  | .lastore => 1
  | .aastore => 1
  | .arraylength => 1
  | .newarray .int => 2
  | .newarray .char => 2
  | .newarray .long => 2
  | .newarray .boolean => 2
  | .anewarray _ => 3
  | .new _ => 3
  | .ireturn => 1
  | .lreturn => 1
  | .areturn => 1
  | .return_ => 1
  | .invokevirtual _ => 3
  | .invokespecial _ => 3
  | .invokestatic _ => 3
  | _ => 0
end
section
/-! EACH STEP of the pure machine is a step of the machine -/
abbrev zA (base : Nat) : Nat → Prop := fun q => base ≤ q
def zGo (p : Program) (l : Launch) (e : Env) (R : Room) (s : State) (m : MethodId) (args : Array Value) (below : List Frame) (meth : Method) (c : Code) (Q : State → Prop) (D : va_G) (cl : List vw_C) (cA : Nat → ClassId) (ad : Nat → Nat) (base nL c0 s0 : Nat) (F : zF) : Prop :=
  ∀ (ls : Array Slot) (H : Heap) (locs : List Loc) (cells slots : Nat), zLH ad ls nL F.2.1 → zW D cl cA ad base F.2.2.2 H → va_S (zA base) s.heap H locs → cells + c0 = F.2.2.2.1 → slots + s0 = F.2.2.2.2.1 → W p l e R s m args below meth c H locs cells slots Q (F0 m F.1 ls (F.2.2.1.map (zv ad)))
section ZO
variable {p : Program} {l : Launch} {e : Env} {R : Room} {s : State} {m : MethodId} {args : Array Value} {below : List Frame} {meth : Method} {c : Code} {Q : State → Prop} {D : va_G} {cl : List vw_C} {cA : Nat → ClassId} {ad : Nat → Nat} {base nL c0 s0 : Nat} {cc : ByteArray} {pc : Nat} {L : zL} {st : List Value} {h : zH} {F : zF}
theorem zo_iconst (hx : p.tables.exec = Jvm.exec) (hb : c.code = cc) {n : Int} (hd : decode cc pc = .ok (.iconst n, 1)) (hz : some (pc + 1, L, .int (Int32.ofInt n) :: st, h) = some F) (k : zGo p l e R s m args below meth c Q D cl cA ad base nL c0 s0 F) : zGo p l e R s m args below meth c Q D cl cA ad base nL c0 s0 (pc, L, st, h) := by
  cases hz
  intro ls H locs cells slots g1 g2 g3 g4 g5
  exact lv_iconst hx hb hd rfl (k ls H locs cells slots g1 g2 g3 g4 g5)
theorem zo_bipush (hx : p.tables.exec = Jvm.exec) (hb : c.code = cc) {n : Int} (hd : decode cc pc = .ok (.bipush n, 2)) (hz : some (pc + 2, L, .int ((Int8.ofInt n).toInt32) :: st, h) = some F) (k : zGo p l e R s m args below meth c Q D cl cA ad base nL c0 s0 F) : zGo p l e R s m args below meth c Q D cl cA ad base nL c0 s0 (pc, L, st, h) := by
  cases hz
  intro ls H locs cells slots g1 g2 g3 g4 g5
  exact lv_bipush hx hb hd rfl (k ls H locs cells slots g1 g2 g3 g4 g5)
theorem zo_sipush (hx : p.tables.exec = Jvm.exec) (hb : c.code = cc) {n : Int} (hd : decode cc pc = .ok (.sipush n, 3)) (hz : some (pc + 3, L, .int ((Int16.ofInt n).toInt32) :: st, h) = some F) (k : zGo p l e R s m args below meth c Q D cl cA ad base nL c0 s0 F) : zGo p l e R s m args below meth c Q D cl cA ad base nL c0 s0 (pc, L, st, h) := by
  cases hz
  intro ls H locs cells slots g1 g2 g3 g4 g5
  exact lv_sipush hx hb hd rfl (k ls H locs cells slots g1 g2 g3 g4 g5)
theorem zo_lconst (hx : p.tables.exec = Jvm.exec) (hb : c.code = cc) {n : Fin 2} (hd : decode cc pc = .ok (.lconst n, 1)) (hz : some (pc + 1, L, .long (Int64.ofNat (n : Nat)) :: st, h) = some F) (k : zGo p l e R s m args below meth c Q D cl cA ad base nL c0 s0 F) : zGo p l e R s m args below meth c Q D cl cA ad base nL c0 s0 (pc, L, st, h) := by
  cases hz
  intro ls H locs cells slots g1 g2 g3 g4 g5
  exact lv_lconst hx hb hd rfl (k ls H locs cells slots g1 g2 g3 g4 g5)
theorem zo_anull (hx : p.tables.exec = Jvm.exec) (hb : c.code = cc) (hd : decode cc pc = .ok (.aconst_null, 1)) (hz : some (pc + 1, L, .null :: st, h) = some F) (k : zGo p l e R s m args below meth c Q D cl cA ad base nL c0 s0 F) : zGo p l e R s m args below meth c Q D cl cA ad base nL c0 s0 (pc, L, st, h) := by
  cases hz
  intro ls H locs cells slots g1 g2 g3 g4 g5
  exact lv_null hx hb hd (k ls H locs cells slots g1 g2 g3 g4 g5)
theorem zo_iload_n (hx : p.tables.exec = Jvm.exec) (hb : c.code = cc) {i : Fin 4} (hd : decode cc pc = .ok (.iload_n i, 1)) (hz : zs_il 1 pc i L st h = some F) (k : zGo p l e R s m args below meth c Q D cl cA ad base nL c0 s0 F) : zGo p l e R s m args below meth c Q D cl cA ad base nL c0 s0 (pc, L, st, h) := by
  unfold zs_il at hz
  split at hz
  · rename_i x hx1
    cases hz
    intro ls H locs cells slots g1 g2 g3 g4 g5
    exact lv_iload_n hx hb hd rfl (g1.2.2.2 _ _ hx1) (k ls H locs cells slots g1 g2 g3 g4 g5)
  · cases hz
theorem zo_iload (hx : p.tables.exec = Jvm.exec) (hb : c.code = cc) {i : Nat} (hd : decode cc pc = .ok (.iload i, 2)) (hz : zs_il 2 pc i L st h = some F) (k : zGo p l e R s m args below meth c Q D cl cA ad base nL c0 s0 F) : zGo p l e R s m args below meth c Q D cl cA ad base nL c0 s0 (pc, L, st, h) := by
  unfold zs_il at hz
  split at hz
  · rename_i x hx1
    cases hz
    intro ls H locs cells slots g1 g2 g3 g4 g5
    exact lv_iload hx hb hd (g1.2.2.2 _ _ hx1) (k ls H locs cells slots g1 g2 g3 g4 g5)
  · cases hz
theorem zo_lload_n (hx : p.tables.exec = Jvm.exec) (hb : c.code = cc) {i : Fin 4} (hd : decode cc pc = .ok (.lload_n i, 1)) (hz : zs_jl 1 pc i L st h = some F) (k : zGo p l e R s m args below meth c Q D cl cA ad base nL c0 s0 F) : zGo p l e R s m args below meth c Q D cl cA ad base nL c0 s0 (pc, L, st, h) := by
  unfold zs_jl at hz
  split at hz
  · rename_i x hx1
    cases hz
    intro ls H locs cells slots g1 g2 g3 g4 g5
    exact lv_lload_n hx hb hd rfl (g1.2.2.2 _ _ hx1) (k ls H locs cells slots g1 g2 g3 g4 g5)
  · cases hz
theorem zo_lload (hx : p.tables.exec = Jvm.exec) (hb : c.code = cc) {i : Nat} (hd : decode cc pc = .ok (.lload i, 2)) (hz : zs_jl 2 pc i L st h = some F) (k : zGo p l e R s m args below meth c Q D cl cA ad base nL c0 s0 F) : zGo p l e R s m args below meth c Q D cl cA ad base nL c0 s0 (pc, L, st, h) := by
  unfold zs_jl at hz
  split at hz
  · rename_i x hx1
    cases hz
    intro ls H locs cells slots g1 g2 g3 g4 g5
    exact lv_lload hx hb hd (g1.2.2.2 _ _ hx1) (k ls H locs cells slots g1 g2 g3 g4 g5)
  · cases hz
theorem zo_aload_n (hx : p.tables.exec = Jvm.exec) (hb : c.code = cc) {i : Fin 4} (hd : decode cc pc = .ok (.aload_n i, 1)) (hz : zs_al 1 pc i L st h = some F) (k : zGo p l e R s m args below meth c Q D cl cA ad base nL c0 s0 F) : zGo p l e R s m args below meth c Q D cl cA ad base nL c0 s0 (pc, L, st, h) := by
  unfold zs_al at hz
  split at hz
  · rename_i x hx1
    cases hz
    intro ls H locs cells slots g1 g2 g3 g4 g5
    exact lv_aload_n hx hb hd rfl (g1.2.2.2 _ _ hx1) (k ls H locs cells slots g1 g2 g3 g4 g5)
  · rename_i hx1
    cases hz
    intro ls H locs cells slots g1 g2 g3 g4 g5
    exact lv_aload_nN hx hb hd rfl (g1.2.2.2 _ _ hx1) (k ls H locs cells slots g1 g2 g3 g4 g5)
  · cases hz
theorem zo_aload (hx : p.tables.exec = Jvm.exec) (hb : c.code = cc) {i : Nat} (hd : decode cc pc = .ok (.aload i, 2)) (hz : zs_al 2 pc i L st h = some F) (k : zGo p l e R s m args below meth c Q D cl cA ad base nL c0 s0 F) : zGo p l e R s m args below meth c Q D cl cA ad base nL c0 s0 (pc, L, st, h) := by
  unfold zs_al at hz
  split at hz
  · rename_i x hx1
    cases hz
    intro ls H locs cells slots g1 g2 g3 g4 g5
    exact lv_aload hx hb hd (g1.2.2.2 _ _ hx1) (k ls H locs cells slots g1 g2 g3 g4 g5)
  · rename_i hx1
    cases hz
    intro ls H locs cells slots g1 g2 g3 g4 g5
    exact lv_aloadN hx hb hd (g1.2.2.2 _ _ hx1) (k ls H locs cells slots g1 g2 g3 g4 g5)
  · cases hz
theorem zo_istore_n (hx : p.tables.exec = Jvm.exec) (hb : c.code = cc) {i : Fin 4} (hd : decode cc pc = .ok (.istore_n i, 1)) (hz : zs_is 1 pc i L st h = some F) (k : zGo p l e R s m args below meth c Q D cl cA ad base nL c0 s0 F) : zGo p l e R s m args below meth c Q D cl cA ad base nL c0 s0 (pc, L, st, h) := by
  unfold zs_is at hz
  split at hz
  · rename_i x r
    split at hz
    · rename_i L' hL'
      cases hz
      intro ls H locs cells slots g1 g2 g3 g4 g5
      have hk := zst1_ok g1 hL'
      exact lv_istore_n hx hb hd rfl g1.has hk.1 rfl (fun ls2 h2 => k ls2 H locs cells slots (hk.2 ls2 h2) g2 g3 g4 g5)
    · cases hz
  · cases hz
theorem zo_istore (hx : p.tables.exec = Jvm.exec) (hb : c.code = cc) {i : Nat} (hd : decode cc pc = .ok (.istore i, 2)) (hz : zs_is 2 pc i L st h = some F) (k : zGo p l e R s m args below meth c Q D cl cA ad base nL c0 s0 F) : zGo p l e R s m args below meth c Q D cl cA ad base nL c0 s0 (pc, L, st, h) := by
  unfold zs_is at hz
  split at hz
  · rename_i x r
    split at hz
    · rename_i L' hL'
      cases hz
      intro ls H locs cells slots g1 g2 g3 g4 g5
      have hk := zst1_ok g1 hL'
      exact lv_istore hx hb hd g1.has hk.1 rfl (fun ls2 h2 => k ls2 H locs cells slots (hk.2 ls2 h2) g2 g3 g4 g5)
    · cases hz
  · cases hz
theorem zo_lstore_n (hx : p.tables.exec = Jvm.exec) (hb : c.code = cc) {i : Fin 4} (hd : decode cc pc = .ok (.lstore_n i, 1)) (hz : zs_js 1 pc i L st h = some F) (k : zGo p l e R s m args below meth c Q D cl cA ad base nL c0 s0 F) : zGo p l e R s m args below meth c Q D cl cA ad base nL c0 s0 (pc, L, st, h) := by
  unfold zs_js at hz
  split at hz
  · rename_i x r
    split at hz
    · rename_i L' hL'
      cases hz
      intro ls H locs cells slots g1 g2 g3 g4 g5
      have hk := zst2_ok g1 hL'
      exact lv_lstore_n hx hb hd rfl g1.has hk.1 rfl (fun ls2 h2 => k ls2 H locs cells slots (hk.2 ls2 h2) g2 g3 g4 g5)
    · cases hz
  · cases hz
theorem zo_lstore (hx : p.tables.exec = Jvm.exec) (hb : c.code = cc) {i : Nat} (hd : decode cc pc = .ok (.lstore i, 2)) (hz : zs_js 2 pc i L st h = some F) (k : zGo p l e R s m args below meth c Q D cl cA ad base nL c0 s0 F) : zGo p l e R s m args below meth c Q D cl cA ad base nL c0 s0 (pc, L, st, h) := by
  unfold zs_js at hz
  split at hz
  · rename_i x r
    split at hz
    · rename_i L' hL'
      cases hz
      intro ls H locs cells slots g1 g2 g3 g4 g5
      have hk := zst2_ok g1 hL'
      exact lv_lstore hx hb hd g1.has hk.1 rfl (fun ls2 h2 => k ls2 H locs cells slots (hk.2 ls2 h2) g2 g3 g4 g5)
    · cases hz
  · cases hz
theorem zo_astore_n (hx : p.tables.exec = Jvm.exec) (hb : c.code = cc) {i : Fin 4} (hd : decode cc pc = .ok (.astore_n i, 1)) (hz : zs_as 1 pc i L st h = some F) (k : zGo p l e R s m args below meth c Q D cl cA ad base nL c0 s0 F) : zGo p l e R s m args below meth c Q D cl cA ad base nL c0 s0 (pc, L, st, h) := by
  unfold zs_as at hz
  split at hz
  · rename_i x r
    split at hz
    · rename_i L' hL'
      cases hz
      intro ls H locs cells slots g1 g2 g3 g4 g5
      have hk := zst1_ok g1 hL'
      exact lv_astore_n hx hb hd rfl g1.has hk.1 rfl (fun ls2 h2 => k ls2 H locs cells slots (hk.2 ls2 h2) g2 g3 g4 g5)
    · cases hz
  · rename_i r
    split at hz
    · rename_i L' hL'
      cases hz
      intro ls H locs cells slots g1 g2 g3 g4 g5
      have hk := zst1_ok g1 hL'
      exact lv_astore_nN hx hb hd rfl g1.has hk.1 rfl (fun ls2 h2 => k ls2 H locs cells slots (hk.2 ls2 h2) g2 g3 g4 g5)
    · cases hz
  · cases hz
theorem zo_astore (hx : p.tables.exec = Jvm.exec) (hb : c.code = cc) {i : Nat} (hd : decode cc pc = .ok (.astore i, 2)) (hz : zs_as 2 pc i L st h = some F) (k : zGo p l e R s m args below meth c Q D cl cA ad base nL c0 s0 F) : zGo p l e R s m args below meth c Q D cl cA ad base nL c0 s0 (pc, L, st, h) := by
  unfold zs_as at hz
  split at hz
  · rename_i x r
    split at hz
    · rename_i L' hL'
      cases hz
      intro ls H locs cells slots g1 g2 g3 g4 g5
      have hk := zst1_ok g1 hL'
      exact lv_astore hx hb hd g1.has hk.1 rfl (fun ls2 h2 => k ls2 H locs cells slots (hk.2 ls2 h2) g2 g3 g4 g5)
    · cases hz
  · rename_i r
    split at hz
    · rename_i L' hL'
      cases hz
      intro ls H locs cells slots g1 g2 g3 g4 g5
      have hk := zst1_ok g1 hL'
      exact lv_astoreN hx hb hd g1.has hk.1 rfl (fun ls2 h2 => k ls2 H locs cells slots (hk.2 ls2 h2) g2 g3 g4 g5)
    · cases hz
  · cases hz
theorem zo_iinc (hx : p.tables.exec = Jvm.exec) (hb : c.code = cc) {i : Nat} {n : Int} (hd : decode cc pc = .ok (.iinc i n, 3)) (hz : zs_inc pc i n L st h = some F) (k : zGo p l e R s m args below meth c Q D cl cA ad base nL c0 s0 F) : zGo p l e R s m args below meth c Q D cl cA ad base nL c0 s0 (pc, L, st, h) := by
  unfold zs_inc at hz
  split at hz
  · rename_i x hx1
    split at hz
    · rename_i L' hL'
      cases hz
      intro ls H locs cells slots g1 g2 g3 g4 g5
      have hk := zst1_ok g1 hL'
      obtain ⟨q, hq⟩ := List.getElem?_of_mem (zll_mem (ad := ad) hx1)
      exact lv_iinc hx hb hd g1.has hq rfl hk.1 rfl (fun ls2 h2 => k ls2 H locs cells slots (hk.2 ls2 h2) g2 g3 g4 g5)
    · cases hz
  · cases hz
theorem zo_iadd (hx : p.tables.exec = Jvm.exec) (hb : c.code = cc) (hd : decode cc pc = .ok (.iadd, 1)) (hz : zs_ii pc L st h (fun x y => x + y) = some F) (k : zGo p l e R s m args below meth c Q D cl cA ad base nL c0 s0 F) : zGo p l e R s m args below meth c Q D cl cA ad base nL c0 s0 (pc, L, st, h) := by
  unfold zs_ii at hz
  split at hz
  · rename_i y x r
    cases hz
    intro ls H locs cells slots g1 g2 g3 g4 g5
    exact lv_iadd hx hb hd (k ls H locs cells slots g1 g2 g3 g4 g5)
  · cases hz
theorem zo_isub (hx : p.tables.exec = Jvm.exec) (hb : c.code = cc) (hd : decode cc pc = .ok (.isub, 1)) (hz : zs_ii pc L st h (fun x y => x - y) = some F) (k : zGo p l e R s m args below meth c Q D cl cA ad base nL c0 s0 F) : zGo p l e R s m args below meth c Q D cl cA ad base nL c0 s0 (pc, L, st, h) := by
  unfold zs_ii at hz
  split at hz
  · rename_i y x r
    cases hz
    intro ls H locs cells slots g1 g2 g3 g4 g5
    exact lv_isub hx hb hd (k ls H locs cells slots g1 g2 g3 g4 g5)
  · cases hz
theorem zo_imul (hx : p.tables.exec = Jvm.exec) (hb : c.code = cc) (hd : decode cc pc = .ok (.imul, 1)) (hz : zs_ii pc L st h (fun x y => x * y) = some F) (k : zGo p l e R s m args below meth c Q D cl cA ad base nL c0 s0 F) : zGo p l e R s m args below meth c Q D cl cA ad base nL c0 s0 (pc, L, st, h) := by
  unfold zs_ii at hz
  split at hz
  · rename_i y x r
    cases hz
    intro ls H locs cells slots g1 g2 g3 g4 g5
    exact lv_imul hx hb hd (k ls H locs cells slots g1 g2 g3 g4 g5)
  · cases hz
theorem zo_iand (hx : p.tables.exec = Jvm.exec) (hb : c.code = cc) (hd : decode cc pc = .ok (.iand, 1)) (hz : zs_ii pc L st h (fun x y => x &&& y) = some F) (k : zGo p l e R s m args below meth c Q D cl cA ad base nL c0 s0 F) : zGo p l e R s m args below meth c Q D cl cA ad base nL c0 s0 (pc, L, st, h) := by
  unfold zs_ii at hz
  split at hz
  · rename_i y x r
    cases hz
    intro ls H locs cells slots g1 g2 g3 g4 g5
    exact lv_iand hx hb hd (k ls H locs cells slots g1 g2 g3 g4 g5)
  · cases hz
theorem zo_ishr (hx : p.tables.exec = Jvm.exec) (hb : c.code = cc) (hd : decode cc pc = .ok (.ishr, 1)) (hz : zs_ii pc L st h (fun x y => x >>> (y &&& 31)) = some F) (k : zGo p l e R s m args below meth c Q D cl cA ad base nL c0 s0 F) : zGo p l e R s m args below meth c Q D cl cA ad base nL c0 s0 (pc, L, st, h) := by
  unfold zs_ii at hz
  split at hz
  · rename_i y x r
    cases hz
    intro ls H locs cells slots g1 g2 g3 g4 g5
    exact lv_ishr hx hb hd (k ls H locs cells slots g1 g2 g3 g4 g5)
  · cases hz
theorem zo_idiv (hx : p.tables.exec = Jvm.exec) (hb : c.code = cc) (hd : decode cc pc = .ok (.idiv, 1)) (hz : zs_dv pc L st h (fun x y => x / y) = some F) (k : zGo p l e R s m args below meth c Q D cl cA ad base nL c0 s0 F) : zGo p l e R s m args below meth c Q D cl cA ad base nL c0 s0 (pc, L, st, h) := by
  unfold zs_dv at hz
  split at hz
  · rename_i y x r
    split at hz
    · cases hz
    · rename_i hy
      cases hz
      intro ls H locs cells slots g1 g2 g3 g4 g5
      exact lv_idiv hx hb hd hy (k ls H locs cells slots g1 g2 g3 g4 g5)
  · cases hz
theorem zo_irem (hx : p.tables.exec = Jvm.exec) (hb : c.code = cc) (hd : decode cc pc = .ok (.irem, 1)) (hz : zs_dv pc L st h (fun x y => x - x / y * y) = some F) (k : zGo p l e R s m args below meth c Q D cl cA ad base nL c0 s0 F) : zGo p l e R s m args below meth c Q D cl cA ad base nL c0 s0 (pc, L, st, h) := by
  unfold zs_dv at hz
  split at hz
  · rename_i y x r
    split at hz
    · cases hz
    · rename_i hy
      cases hz
      intro ls H locs cells slots g1 g2 g3 g4 g5
      exact lv_irem hx hb hd hy (k ls H locs cells slots g1 g2 g3 g4 g5)
  · cases hz
theorem zo_ladd (hx : p.tables.exec = Jvm.exec) (hb : c.code = cc) (hd : decode cc pc = .ok (.ladd, 1)) (hz : zs_jj pc L st h (fun x y => .long (x + y)) = some F) (k : zGo p l e R s m args below meth c Q D cl cA ad base nL c0 s0 F) : zGo p l e R s m args below meth c Q D cl cA ad base nL c0 s0 (pc, L, st, h) := by
  unfold zs_jj at hz
  split at hz
  · rename_i y x r
    cases hz
    intro ls H locs cells slots g1 g2 g3 g4 g5
    exact lv_ladd hx hb hd (k ls H locs cells slots g1 g2 g3 g4 g5)
  · cases hz
theorem zo_lmul (hx : p.tables.exec = Jvm.exec) (hb : c.code = cc) (hd : decode cc pc = .ok (.lmul, 1)) (hz : zs_jj pc L st h (fun x y => .long (x * y)) = some F) (k : zGo p l e R s m args below meth c Q D cl cA ad base nL c0 s0 F) : zGo p l e R s m args below meth c Q D cl cA ad base nL c0 s0 (pc, L, st, h) := by
  unfold zs_jj at hz
  split at hz
  · rename_i y x r
    cases hz
    intro ls H locs cells slots g1 g2 g3 g4 g5
    exact lv_lmul hx hb hd (k ls H locs cells slots g1 g2 g3 g4 g5)
  · cases hz
theorem zo_land (hx : p.tables.exec = Jvm.exec) (hb : c.code = cc) (hd : decode cc pc = .ok (.land, 1)) (hz : zs_jj pc L st h (fun x y => .long (x &&& y)) = some F) (k : zGo p l e R s m args below meth c Q D cl cA ad base nL c0 s0 F) : zGo p l e R s m args below meth c Q D cl cA ad base nL c0 s0 (pc, L, st, h) := by
  unfold zs_jj at hz
  split at hz
  · rename_i y x r
    cases hz
    intro ls H locs cells slots g1 g2 g3 g4 g5
    exact lv_land hx hb hd (k ls H locs cells slots g1 g2 g3 g4 g5)
  · cases hz
theorem zo_lor (hx : p.tables.exec = Jvm.exec) (hb : c.code = cc) (hd : decode cc pc = .ok (.lor, 1)) (hz : zs_jj pc L st h (fun x y => .long (x ||| y)) = some F) (k : zGo p l e R s m args below meth c Q D cl cA ad base nL c0 s0 F) : zGo p l e R s m args below meth c Q D cl cA ad base nL c0 s0 (pc, L, st, h) := by
  unfold zs_jj at hz
  split at hz
  · rename_i y x r
    cases hz
    intro ls H locs cells slots g1 g2 g3 g4 g5
    exact lv_lor hx hb hd (k ls H locs cells slots g1 g2 g3 g4 g5)
  · cases hz
theorem zo_lcmp (hx : p.tables.exec = Jvm.exec) (hb : c.code = cc) (hd : decode cc pc = .ok (.lcmp, 1)) (hz : zs_jj pc L st h (fun x y => .int (lg_cmp x y)) = some F) (k : zGo p l e R s m args below meth c Q D cl cA ad base nL c0 s0 F) : zGo p l e R s m args below meth c Q D cl cA ad base nL c0 s0 (pc, L, st, h) := by
  unfold zs_jj at hz
  split at hz
  · rename_i y x r
    cases hz
    intro ls H locs cells slots g1 g2 g3 g4 g5
    exact W.lcmp hx hb hd (k ls H locs cells slots g1 g2 g3 g4 g5)
  · cases hz
theorem zo_lshl (hx : p.tables.exec = Jvm.exec) (hb : c.code = cc) (hd : decode cc pc = .ok (.lshl, 1)) (hz : zs_ji pc L st h (fun x y => x <<< (y.toInt64 &&& 63)) = some F) (k : zGo p l e R s m args below meth c Q D cl cA ad base nL c0 s0 F) : zGo p l e R s m args below meth c Q D cl cA ad base nL c0 s0 (pc, L, st, h) := by
  unfold zs_ji at hz
  split at hz
  · rename_i y x r
    cases hz
    intro ls H locs cells slots g1 g2 g3 g4 g5
    exact lv_lshl hx hb hd rfl (k ls H locs cells slots g1 g2 g3 g4 g5)
  · cases hz
theorem zo_lushr (hx : p.tables.exec = Jvm.exec) (hb : c.code = cc) (hd : decode cc pc = .ok (.lushr, 1)) (hz : zs_ji pc L st h (fun x y => (x.toUInt64 >>> (y.toInt64.toUInt64 &&& Int64.toUInt64 63)).toInt64) = some F) (k : zGo p l e R s m args below meth c Q D cl cA ad base nL c0 s0 F) : zGo p l e R s m args below meth c Q D cl cA ad base nL c0 s0 (pc, L, st, h) := by
  unfold zs_ji at hz
  split at hz
  · rename_i y x r
    cases hz
    intro ls H locs cells slots g1 g2 g3 g4 g5
    exact lv_lushr hx hb hd rfl (k ls H locs cells slots g1 g2 g3 g4 g5)
  · cases hz
theorem zo_i2l (hx : p.tables.exec = Jvm.exec) (hb : c.code = cc) (hd : decode cc pc = .ok (.i2l, 1)) (hz : zs_i1 pc L st h (fun x => .long x.toInt64) = some F) (k : zGo p l e R s m args below meth c Q D cl cA ad base nL c0 s0 F) : zGo p l e R s m args below meth c Q D cl cA ad base nL c0 s0 (pc, L, st, h) := by
  unfold zs_i1 at hz
  split at hz
  · rename_i x r
    cases hz
    intro ls H locs cells slots g1 g2 g3 g4 g5
    exact lv_i2l hx hb hd rfl (k ls H locs cells slots g1 g2 g3 g4 g5)
  · cases hz
theorem zo_i2c (hx : p.tables.exec = Jvm.exec) (hb : c.code = cc) (hd : decode cc pc = .ok (.i2c, 1)) (hz : zs_i1 pc L st h (fun x => .int (x.toUInt32 % 65536).toInt32) = some F) (k : zGo p l e R s m args below meth c Q D cl cA ad base nL c0 s0 F) : zGo p l e R s m args below meth c Q D cl cA ad base nL c0 s0 (pc, L, st, h) := by
  unfold zs_i1 at hz
  split at hz
  · rename_i x r
    cases hz
    intro ls H locs cells slots g1 g2 g3 g4 g5
    exact lv_i2c hx hb hd rfl (k ls H locs cells slots g1 g2 g3 g4 g5)
  · cases hz
theorem zo_l2i (hx : p.tables.exec = Jvm.exec) (hb : c.code = cc) (hd : decode cc pc = .ok (.l2i, 1)) (hz : zs_j1 pc L st h (fun x => .int x.toInt32) = some F) (k : zGo p l e R s m args below meth c Q D cl cA ad base nL c0 s0 F) : zGo p l e R s m args below meth c Q D cl cA ad base nL c0 s0 (pc, L, st, h) := by
  unfold zs_j1 at hz
  split at hz
  · rename_i x r
    cases hz
    intro ls H locs cells slots g1 g2 g3 g4 g5
    exact lv_l2i hx hb hd rfl (k ls H locs cells slots g1 g2 g3 g4 g5)
  · cases hz
theorem zgo_some {off : Int} (hz : zgo pc off L st h = some F) : ∃ t : Nat, (pc : Int) + off = (t : Int) ∧ F = (t, L, st, h) := by
  unfold zgo at hz
  split at hz
  · rename_i hc
    exact ⟨_, (Int.toNat_of_nonneg hc).symm, (Option.some.inj hz).symm⟩
  · cases hz
theorem zo_goto (hx : p.tables.exec = Jvm.exec) (hb : c.code = cc) {off : Int} (hd : decode cc pc = .ok (.goto off, 3)) (hz : zgo pc off L st h = some F) (k : zGo p l e R s m args below meth c Q D cl cA ad base nL c0 s0 F) : zGo p l e R s m args below meth c Q D cl cA ad base nL c0 s0 (pc, L, st, h) := by
  obtain ⟨t, ht, rfl⟩ := zgo_some hz
  intro ls H locs cells slots g1 g2 g3 g4 g5
  exact lv_goto hx hb hd ht (k ls H locs cells slots g1 g2 g3 g4 g5)
theorem zo_if_eq (hx : p.tables.exec = Jvm.exec) (hb : c.code = cc) {off : Int} (hd : decode cc pc = .ok (.ifCond .eq off, 3)) (hz : zs_if pc off L st h (fun x => decide (x = 0)) = some F) (k : zGo p l e R s m args below meth c Q D cl cA ad base nL c0 s0 F) : zGo p l e R s m args below meth c Q D cl cA ad base nL c0 s0 (pc, L, st, h) := by
  unfold zs_if at hz
  split at hz
  · rename_i x r
    split at hz
    · rename_i ho
      split at hz
      · rename_i hc
        cases hz
        intro ls H locs cells slots g1 g2 g3 g4 g5
        exact lv_if_eq hx hb hd (Int.toNat_of_nonneg ho).symm (fun _ => k ls H locs cells slots g1 g2 g3 g4 g5) (fun q => absurd (of_decide_eq_true hc) q)
      · rename_i hc
        cases hz
        intro ls H locs cells slots g1 g2 g3 g4 g5
        exact lv_if_eq hx hb hd (Int.toNat_of_nonneg ho).symm (fun q => absurd (decide_eq_true q) hc) (fun _ => k ls H locs cells slots g1 g2 g3 g4 g5)
    · cases hz
  · cases hz
theorem zo_icmp_eq (hx : p.tables.exec = Jvm.exec) (hb : c.code = cc) {off : Int} (hd : decode cc pc = .ok (.if_icmp .eq off, 3)) (hz : zs_ic pc off L st h (fun x y => decide (x = y)) = some F) (k : zGo p l e R s m args below meth c Q D cl cA ad base nL c0 s0 F) : zGo p l e R s m args below meth c Q D cl cA ad base nL c0 s0 (pc, L, st, h) := by
  unfold zs_ic at hz
  split at hz
  · rename_i y x r
    split at hz
    · rename_i ho
      split at hz
      · rename_i hc
        cases hz
        intro ls H locs cells slots g1 g2 g3 g4 g5
        exact lv_icmp_eq hx hb hd (Int.toNat_of_nonneg ho).symm (fun _ => k ls H locs cells slots g1 g2 g3 g4 g5) (fun q => absurd (of_decide_eq_true hc) q)
      · rename_i hc
        cases hz
        intro ls H locs cells slots g1 g2 g3 g4 g5
        exact lv_icmp_eq hx hb hd (Int.toNat_of_nonneg ho).symm (fun q => absurd (decide_eq_true q) hc) (fun _ => k ls H locs cells slots g1 g2 g3 g4 g5)
    · cases hz
  · cases hz
theorem zo_if_ne (hx : p.tables.exec = Jvm.exec) (hb : c.code = cc) {off : Int} (hd : decode cc pc = .ok (.ifCond .ne off, 3)) (hz : zs_if pc off L st h (fun x => decide (¬ x = 0)) = some F) (k : zGo p l e R s m args below meth c Q D cl cA ad base nL c0 s0 F) : zGo p l e R s m args below meth c Q D cl cA ad base nL c0 s0 (pc, L, st, h) := by
  unfold zs_if at hz
  split at hz
  · rename_i x r
    split at hz
    · rename_i ho
      split at hz
      · rename_i hc
        cases hz
        intro ls H locs cells slots g1 g2 g3 g4 g5
        exact lv_if_ne hx hb hd (Int.toNat_of_nonneg ho).symm (fun _ => k ls H locs cells slots g1 g2 g3 g4 g5) (fun q => absurd q (of_decide_eq_true hc))
      · rename_i hc
        cases hz
        intro ls H locs cells slots g1 g2 g3 g4 g5
        exact lv_if_ne hx hb hd (Int.toNat_of_nonneg ho).symm (fun q => absurd (decide_eq_true q) hc) (fun q => k ls H locs cells slots g1 g2 g3 g4 g5)
    · cases hz
  · cases hz
theorem zo_icmp_ne (hx : p.tables.exec = Jvm.exec) (hb : c.code = cc) {off : Int} (hd : decode cc pc = .ok (.if_icmp .ne off, 3)) (hz : zs_ic pc off L st h (fun x y => decide (¬ x = y)) = some F) (k : zGo p l e R s m args below meth c Q D cl cA ad base nL c0 s0 F) : zGo p l e R s m args below meth c Q D cl cA ad base nL c0 s0 (pc, L, st, h) := by
  unfold zs_ic at hz
  split at hz
  · rename_i y x r
    split at hz
    · rename_i ho
      split at hz
      · rename_i hc
        cases hz
        intro ls H locs cells slots g1 g2 g3 g4 g5
        exact lv_icmp_ne hx hb hd (Int.toNat_of_nonneg ho).symm (fun _ => k ls H locs cells slots g1 g2 g3 g4 g5) (fun q => absurd q (of_decide_eq_true hc))
      · rename_i hc
        cases hz
        intro ls H locs cells slots g1 g2 g3 g4 g5
        exact lv_icmp_ne hx hb hd (Int.toNat_of_nonneg ho).symm (fun q => absurd (decide_eq_true q) hc) (fun q => k ls H locs cells slots g1 g2 g3 g4 g5)
    · cases hz
  · cases hz
theorem zo_if_lt (hx : p.tables.exec = Jvm.exec) (hb : c.code = cc) {off : Int} (hd : decode cc pc = .ok (.ifCond .lt off, 3)) (hz : zs_if pc off L st h (fun x => decide (x < 0)) = some F) (k : zGo p l e R s m args below meth c Q D cl cA ad base nL c0 s0 F) : zGo p l e R s m args below meth c Q D cl cA ad base nL c0 s0 (pc, L, st, h) := by
  unfold zs_if at hz
  split at hz
  · rename_i x r
    split at hz
    · rename_i ho
      split at hz
      · rename_i hc
        cases hz
        intro ls H locs cells slots g1 g2 g3 g4 g5
        exact lv_if_lt hx hb hd (Int.toNat_of_nonneg ho).symm (fun _ => k ls H locs cells slots g1 g2 g3 g4 g5) (fun q => absurd (of_decide_eq_true hc) q)
      · rename_i hc
        cases hz
        intro ls H locs cells slots g1 g2 g3 g4 g5
        exact lv_if_lt hx hb hd (Int.toNat_of_nonneg ho).symm (fun q => absurd (decide_eq_true q) hc) (fun _ => k ls H locs cells slots g1 g2 g3 g4 g5)
    · cases hz
  · cases hz
theorem zo_icmp_lt (hx : p.tables.exec = Jvm.exec) (hb : c.code = cc) {off : Int} (hd : decode cc pc = .ok (.if_icmp .lt off, 3)) (hz : zs_ic pc off L st h (fun x y => decide (x < y)) = some F) (k : zGo p l e R s m args below meth c Q D cl cA ad base nL c0 s0 F) : zGo p l e R s m args below meth c Q D cl cA ad base nL c0 s0 (pc, L, st, h) := by
  unfold zs_ic at hz
  split at hz
  · rename_i y x r
    split at hz
    · rename_i ho
      split at hz
      · rename_i hc
        cases hz
        intro ls H locs cells slots g1 g2 g3 g4 g5
        exact lv_icmp_lt hx hb hd (Int.toNat_of_nonneg ho).symm (fun _ => k ls H locs cells slots g1 g2 g3 g4 g5) (fun q => absurd (of_decide_eq_true hc) q)
      · rename_i hc
        cases hz
        intro ls H locs cells slots g1 g2 g3 g4 g5
        exact lv_icmp_lt hx hb hd (Int.toNat_of_nonneg ho).symm (fun q => absurd (decide_eq_true q) hc) (fun _ => k ls H locs cells slots g1 g2 g3 g4 g5)
    · cases hz
  · cases hz
theorem zo_if_ge (hx : p.tables.exec = Jvm.exec) (hb : c.code = cc) {off : Int} (hd : decode cc pc = .ok (.ifCond .ge off, 3)) (hz : zs_if pc off L st h (fun x => decide (0 ≤ x)) = some F) (k : zGo p l e R s m args below meth c Q D cl cA ad base nL c0 s0 F) : zGo p l e R s m args below meth c Q D cl cA ad base nL c0 s0 (pc, L, st, h) := by
  unfold zs_if at hz
  split at hz
  · rename_i x r
    split at hz
    · rename_i ho
      split at hz
      · rename_i hc
        cases hz
        intro ls H locs cells slots g1 g2 g3 g4 g5
        exact lv_if_ge hx hb hd (Int.toNat_of_nonneg ho).symm (fun _ => k ls H locs cells slots g1 g2 g3 g4 g5) (fun q => absurd (of_decide_eq_true hc) q)
      · rename_i hc
        cases hz
        intro ls H locs cells slots g1 g2 g3 g4 g5
        exact lv_if_ge hx hb hd (Int.toNat_of_nonneg ho).symm (fun q => absurd (decide_eq_true q) hc) (fun _ => k ls H locs cells slots g1 g2 g3 g4 g5)
    · cases hz
  · cases hz
theorem zo_icmp_ge (hx : p.tables.exec = Jvm.exec) (hb : c.code = cc) {off : Int} (hd : decode cc pc = .ok (.if_icmp .ge off, 3)) (hz : zs_ic pc off L st h (fun x y => decide (y ≤ x)) = some F) (k : zGo p l e R s m args below meth c Q D cl cA ad base nL c0 s0 F) : zGo p l e R s m args below meth c Q D cl cA ad base nL c0 s0 (pc, L, st, h) := by
  unfold zs_ic at hz
  split at hz
  · rename_i y x r
    split at hz
    · rename_i ho
      split at hz
      · rename_i hc
        cases hz
        intro ls H locs cells slots g1 g2 g3 g4 g5
        exact lv_icmp_ge hx hb hd (Int.toNat_of_nonneg ho).symm (fun _ => k ls H locs cells slots g1 g2 g3 g4 g5) (fun q => absurd (of_decide_eq_true hc) q)
      · rename_i hc
        cases hz
        intro ls H locs cells slots g1 g2 g3 g4 g5
        exact lv_icmp_ge hx hb hd (Int.toNat_of_nonneg ho).symm (fun q => absurd (decide_eq_true q) hc) (fun _ => k ls H locs cells slots g1 g2 g3 g4 g5)
    · cases hz
  · cases hz
theorem zo_if_gt (hx : p.tables.exec = Jvm.exec) (hb : c.code = cc) {off : Int} (hd : decode cc pc = .ok (.ifCond .gt off, 3)) (hz : zs_if pc off L st h (fun x => decide (0 < x)) = some F) (k : zGo p l e R s m args below meth c Q D cl cA ad base nL c0 s0 F) : zGo p l e R s m args below meth c Q D cl cA ad base nL c0 s0 (pc, L, st, h) := by
  unfold zs_if at hz
  split at hz
  · rename_i x r
    split at hz
    · rename_i ho
      split at hz
      · rename_i hc
        cases hz
        intro ls H locs cells slots g1 g2 g3 g4 g5
        exact lv_if_gt hx hb hd (Int.toNat_of_nonneg ho).symm (fun _ => k ls H locs cells slots g1 g2 g3 g4 g5) (fun q => absurd (of_decide_eq_true hc) q)
      · rename_i hc
        cases hz
        intro ls H locs cells slots g1 g2 g3 g4 g5
        exact lv_if_gt hx hb hd (Int.toNat_of_nonneg ho).symm (fun q => absurd (decide_eq_true q) hc) (fun _ => k ls H locs cells slots g1 g2 g3 g4 g5)
    · cases hz
  · cases hz
theorem zo_icmp_gt (hx : p.tables.exec = Jvm.exec) (hb : c.code = cc) {off : Int} (hd : decode cc pc = .ok (.if_icmp .gt off, 3)) (hz : zs_ic pc off L st h (fun x y => decide (y < x)) = some F) (k : zGo p l e R s m args below meth c Q D cl cA ad base nL c0 s0 F) : zGo p l e R s m args below meth c Q D cl cA ad base nL c0 s0 (pc, L, st, h) := by
  unfold zs_ic at hz
  split at hz
  · rename_i y x r
    split at hz
    · rename_i ho
      split at hz
      · rename_i hc
        cases hz
        intro ls H locs cells slots g1 g2 g3 g4 g5
        exact lv_icmp_gt hx hb hd (Int.toNat_of_nonneg ho).symm (fun _ => k ls H locs cells slots g1 g2 g3 g4 g5) (fun q => absurd (of_decide_eq_true hc) q)
      · rename_i hc
        cases hz
        intro ls H locs cells slots g1 g2 g3 g4 g5
        exact lv_icmp_gt hx hb hd (Int.toNat_of_nonneg ho).symm (fun q => absurd (decide_eq_true q) hc) (fun _ => k ls H locs cells slots g1 g2 g3 g4 g5)
    · cases hz
  · cases hz
theorem zo_if_le (hx : p.tables.exec = Jvm.exec) (hb : c.code = cc) {off : Int} (hd : decode cc pc = .ok (.ifCond .le off, 3)) (hz : zs_if pc off L st h (fun x => decide (x ≤ 0)) = some F) (k : zGo p l e R s m args below meth c Q D cl cA ad base nL c0 s0 F) : zGo p l e R s m args below meth c Q D cl cA ad base nL c0 s0 (pc, L, st, h) := by
  unfold zs_if at hz
  split at hz
  · rename_i x r
    split at hz
    · rename_i ho
      split at hz
      · rename_i hc
        cases hz
        intro ls H locs cells slots g1 g2 g3 g4 g5
        exact lv_if_le hx hb hd (Int.toNat_of_nonneg ho).symm (fun _ => k ls H locs cells slots g1 g2 g3 g4 g5) (fun q => absurd (of_decide_eq_true hc) q)
      · rename_i hc
        cases hz
        intro ls H locs cells slots g1 g2 g3 g4 g5
        exact lv_if_le hx hb hd (Int.toNat_of_nonneg ho).symm (fun q => absurd (decide_eq_true q) hc) (fun _ => k ls H locs cells slots g1 g2 g3 g4 g5)
    · cases hz
  · cases hz
theorem zo_icmp_le (hx : p.tables.exec = Jvm.exec) (hb : c.code = cc) {off : Int} (hd : decode cc pc = .ok (.if_icmp .le off, 3)) (hz : zs_ic pc off L st h (fun x y => decide (x ≤ y)) = some F) (k : zGo p l e R s m args below meth c Q D cl cA ad base nL c0 s0 F) : zGo p l e R s m args below meth c Q D cl cA ad base nL c0 s0 (pc, L, st, h) := by
  unfold zs_ic at hz
  split at hz
  · rename_i y x r
    split at hz
    · rename_i ho
      split at hz
      · rename_i hc
        cases hz
        intro ls H locs cells slots g1 g2 g3 g4 g5
        exact lv_icmp_le hx hb hd (Int.toNat_of_nonneg ho).symm (fun _ => k ls H locs cells slots g1 g2 g3 g4 g5) (fun q => absurd (of_decide_eq_true hc) q)
      · rename_i hc
        cases hz
        intro ls H locs cells slots g1 g2 g3 g4 g5
        exact lv_icmp_le hx hb hd (Int.toNat_of_nonneg ho).symm (fun q => absurd (decide_eq_true q) hc) (fun _ => k ls H locs cells slots g1 g2 g3 g4 g5)
    · cases hz
  · cases hz
theorem zo_ifnull (hx : p.tables.exec = Jvm.exec) (hb : c.code = cc) {off : Int} (hd : decode cc pc = .ok (.ifnull off, 3)) (hz : zs_nu pc off L st h = some F) (k : zGo p l e R s m args below meth c Q D cl cA ad base nL c0 s0 F) : zGo p l e R s m args below meth c Q D cl cA ad base nL c0 s0 (pc, L, st, h) := by
  unfold zs_nu at hz
  split at hz
  · obtain ⟨t, ht, rfl⟩ := zgo_some hz
    intro ls H locs cells slots g1 g2 g3 g4 g5
    exact lv_ifnullN hx hb hd ht (k ls H locs cells slots g1 g2 g3 g4 g5)
  · cases hz
    intro ls H locs cells slots g1 g2 g3 g4 g5
    exact lv_ifnull hx hb hd (k ls H locs cells slots g1 g2 g3 g4 g5)
  · cases hz
theorem zo_ifnonnull (hx : p.tables.exec = Jvm.exec) (hb : c.code = cc) {off : Int} (hd : decode cc pc = .ok (.ifnonnull off, 3)) (hz : zs_nn pc off L st h = some F) (k : zGo p l e R s m args below meth c Q D cl cA ad base nL c0 s0 F) : zGo p l e R s m args below meth c Q D cl cA ad base nL c0 s0 (pc, L, st, h) := by
  unfold zs_nn at hz
  split at hz
  · cases hz
    intro ls H locs cells slots g1 g2 g3 g4 g5
    exact lv_ifnonnullN hx hb hd (k ls H locs cells slots g1 g2 g3 g4 g5)
  · obtain ⟨t, ht, rfl⟩ := zgo_some hz
    intro ls H locs cells slots g1 g2 g3 g4 g5
    exact lv_ifnonnull hx hb hd ht (k ls H locs cells slots g1 g2 g3 g4 g5)
  · cases hz
theorem zo_tableswitch (hx : p.tables.exec = Jvm.exec) (hb : c.code = cc) {d lo hi : Int} {offs : Array Int} {len : Nat} (hd : decode cc pc = .ok (.tableswitch d lo hi offs, len)) (hz : zs_tab pc d lo hi offs L st h = some F) (k : zGo p l e R s m args below meth c Q D cl cA ad base nL c0 s0 F) : zGo p l e R s m args below meth c Q D cl cA ad base nL c0 s0 (pc, L, st, h) := by
  unfold zs_tab at hz
  split at hz
  · split at hz
    · rename_i hc
      obtain ⟨t, ht, rfl⟩ := zgo_some hz
      intro ls H locs cells slots g1 g2 g3 g4 g5
      exact lv_tableOut hx hb hd hc ht (k ls H locs cells slots g1 g2 g3 g4 g5)
    · rename_i hc
      split at hz
      · rename_i off ho
        obtain ⟨t, ht, rfl⟩ := zgo_some hz
        intro ls H locs cells slots g1 g2 g3 g4 g5
        exact lv_tableIn hx hb hd (fun q => hc (Or.inl q)) (fun q => hc (Or.inr q)) ho ht (k ls H locs cells slots g1 g2 g3 g4 g5)
      · cases hz
  · cases hz
theorem zo_dup (hx : p.tables.exec = Jvm.exec) (hb : c.code = cc) (hd : decode cc pc = .ok (.dup, 1)) (hz : zs_dup pc L st h = some F) (k : zGo p l e R s m args below meth c Q D cl cA ad base nL c0 s0 F) : zGo p l e R s m args below meth c Q D cl cA ad base nL c0 s0 (pc, L, st, h) := by
  unfold zs_dup at hz
  split at hz
  · split at hz
    · rename_i v r hc
      cases hz
      intro ls H locs cells slots g1 g2 g3 g4 g5
      exact lv_dup hx hb hd (by rw [zv_cat]; exact hc) (k ls H locs cells slots g1 g2 g3 g4 g5)
    · cases hz
  · cases hz
theorem zo_pop (hx : p.tables.exec = Jvm.exec) (hb : c.code = cc) (hd : decode cc pc = .ok (.pop, 1)) (hz : zs_pop pc L st h = some F) (k : zGo p l e R s m args below meth c Q D cl cA ad base nL c0 s0 F) : zGo p l e R s m args below meth c Q D cl cA ad base nL c0 s0 (pc, L, st, h) := by
  unfold zs_pop at hz
  split at hz
  · split at hz
    · rename_i v r hc
      cases hz
      intro ls H locs cells slots g1 g2 g3 g4 g5
      exact lv_pop (va := zv ad v) hx hb hd (by rw [zv_cat]; exact hc) (k ls H locs cells slots g1 g2 g3 g4 g5)
    · cases hz
  · cases hz
theorem zo_dup2 (hx : p.tables.exec = Jvm.exec) (hb : c.code = cc) (hd : decode cc pc = .ok (.dup2, 1)) (hz : zs_dup2 pc L st h = some F) (k : zGo p l e R s m args below meth c Q D cl cA ad base nL c0 s0 F) : zGo p l e R s m args below meth c Q D cl cA ad base nL c0 s0 (pc, L, st, h) := by
  unfold zs_dup2 at hz
  split at hz
  · split at hz
    · rename_i v w r hc
      cases hz
      intro ls H locs cells slots g1 g2 g3 g4 g5
      exact lv_dup2_11 hx hb hd (by rw [zv_cat]; exact hc.1) (by rw [zv_cat]; exact hc.2) (k ls H locs cells slots g1 g2 g3 g4 g5)
    · cases hz
  · cases hz
end ZO
end
section
/-! THE STEPS that read or write cells -/
def ztys (cA : Nat → ClassId) : List (ClassId × FieldType) := [(cA 0, .int), (cA 1, .char), (cA 2, .long), (cA 3, .boolean), (cA 4, .byte), (cA 5, .object zPatN)]
theorem zP1 {D : va_G} {cl : List vw_C} {q : Nat × va_E} {H : Heap} (h : va_at D cl q H) : va_P D cl [q] H := by
  intro k x hx
  match k, hx with
  | 0, hx => cases hx; exact h
  | k + 1, hx => simp at hx
theorem zin_ok {i : Int32} {n : Nat} (h : 0 ≤ i.toInt ∧ i.toInt < n) : vp_in i n := vp_in_iff.mpr h
theorem zclamp {n : Int32} (h : 0 ≤ n.toInt) : ¬ n < 0 := by
  intro q
  have q' := Int32.lt_iff_toInt_lt.mp q
  have : (0 : Int32).toInt = 0 := by decide
  omega
theorem zfit_ok {ad : Nat → Nat} {ty : FieldType} {v : Value} (h : zfit ty v = true) : narrow ty (zv ad v) = zv ad v ∧ fits ty (zv ad v) = true := by
  unfold zfit at h
  split at h
  · exact ⟨rfl, rfl⟩
  · exact ⟨rfl, rfl⟩
  · rename_i x
    simp only [Bool.or_eq_true, beq_iff_eq] at h
    rcases h with rfl | rfl
    · exact (by decide : narrow .boolean (.int 0) = .int 0 ∧ fits .boolean (.int 0) = true)
    · exact (by decide : narrow .boolean (.int 1) = .int 1 ∧ fits .boolean (.int 1) = true)
  · exact ⟨rfl, rfl⟩
  · exact ⟨rfl, rfl⟩
  · exact ⟨rfl, rfl⟩
  · exact ⟨rfl, rfl⟩
  · cases h
section ZP
variable {p : Program} {l : Launch} {e : Env} {R : Room} {s : State} {m : MethodId} {args : Array Value} {below : List Frame} {meth : Method} {c : Code} {Q : State → Prop} {D : va_G} {cl : List vw_C} {cA : Nat → ClassId} {ad : Nat → Nat} {base nL c0 s0 : Nat} {cc : ByteArray} {pc : Nat} {L : zL} {st : List Value} {h : zH} {F : zF} {own : String} {Ts : List Cond} {o idx : Nat} {X : zX} {ini : Bool}
theorem zo_getf (hx : p.tables.exec = Jvm.exec) (hb : c.code = cc) (hown : s.vm.findClass own = some m.cls) (hts : ∀ w ∈ Ts, w.before args s = true) (hK : va_K D cl (ztys cA) s)
    (hfl : ∀ ci k ne, zfl o idx = some (ci, k, ne) → ∃ C T N, cl[ci]? = some (C, T, N) ∧ k < N ∧ (∀ w ∈ u_ws C T N, w ∈ Ts) ∧ ((Cond.fieldLink own idx (T k).1 (T k).2.1 (T k).2.2.1).before args s = true ∨ ∃ host, (Cond.fieldLinkNest own idx (T k).1 (T k).2.1 (T k).2.2.1 host).before args s = true))
    (hkf : ∀ a v, zkf o idx a = some v → ∃ oo n d, va_OF oo n d (zv ad v) (ad a) (zA base) s s.heap ∧ ((Cond.fieldLink own idx oo n d).before args s = true ∨ ∃ host, (Cond.fieldLinkNest own idx oo n d host).before args s = true))
    (hd : decode cc pc = .ok (.getfield idx, 3)) (hz : zs_getf pc o idx L st h = some F) (k : zGo p l e R s m args below meth c Q D cl cA ad base nL c0 s0 F) : zGo p l e R s m args below meth c Q D cl cA ad base nL c0 s0 (pc, L, st, h) := by
  unfold zs_getf at hz
  split at hz
  · rename_i a r
    split at hz
    · rename_i ci fs hc
      split at hz
      · rename_i ci' k' ne hf
        split at hz
        · rename_i hci
          subst hci
          split at hz
          · rename_i v hv
            cases hz
            intro ls H locs cells slots g1 g2 g3 g4 g5
            obtain ⟨C, T, N, h1, h2, h3, h4⟩ := hfl _ _ _ hf
            have hP := zP1 (g2.2 a _ hc).2.2.2
            have hv' : (fs.map (zv ad))[k']? = some (zv ad v) := by rw [List.getElem?_map, hv]; rfl
            rcases h4 with h4 | ⟨host, h4⟩
            · exact va_get (D := D) (ci := ci') hx hb hts h3 hown hK hP 0 rfl h1 k' h2 h4 (fun _ q => q) hv' hd (k ls H locs cells slots g1 g2 g3 g4 g5)
            · exact va_getN (D := D) (ci := ci') hx hb hts h3 hown hK hP 0 rfl h1 k' h2 h4 (fun _ q => q) hv' hd (k ls H locs cells slots g1 g2 g3 g4 g5)
          · cases hz
        · cases hz
      · cases hz
    · cases hz
    · split at hz
      · rename_i v hv
        cases hz
        intro ls H locs cells slots g1 g2 g3 g4 g5
        obtain ⟨oo, n, d, hE, h4⟩ := hkf _ _ hv
        rcases h4 with h4 | ⟨host, h4⟩
        · exact vk_getf hx hb hE g3 hown h4 (fun _ q => q) hd (k ls H locs cells slots g1 g2 g3 g4 g5)
        · obtain ⟨cf, kk, fi, f, cell, q1, q2, q3, q4, q5, q6⟩ := hE.kept g3.2.1
          exact va_Wgetf hx hb hown h4 q1 q2 q3 q4 q5 rfl rfl hd (k ls H locs cells slots g1 g2 g3 g4 g5)
      · cases hz
  · cases hz
theorem zo_putf (hx : p.tables.exec = Jvm.exec) (hb : c.code = cc) (hown : s.vm.findClass own = some m.cls) (hts : ∀ w ∈ Ts, w.before args s = true) (hK : va_K D cl (ztys cA) s)
    (hfl : ∀ ci k ne, zfl o idx = some (ci, k, ne) → (zfin ci k = false ∨ (ini = true ∧ ci = o ∧ ne = false)) → ∃ C T N, cl[ci]? = some (C, T, N) ∧ k < N ∧ (∀ w ∈ u_ws C T N, w ∈ Ts) ∧ (∀ x, x < N → parseFieldDescriptor (T x).2.2.1 = some (zty ci x)) ∧ (∀ a, a < N → ∀ b, b < N → a ≠ b → (T a).2.1 ≠ (T b).2.1) ∧ (((T k).2.2.2 = false ∧ (Cond.fieldLink own idx (T k).1 (T k).2.1 (T k).2.2.1).before args s = true) ∨ ((T k).2.2.2 = true ∧ meth.name = "<init>" ∧ (T k).1 = own ∧ (Cond.fieldLink own idx (T k).1 (T k).2.1 (T k).2.2.1).before args s = true) ∨ ((T k).2.2.2 = false ∧ ∃ host, (Cond.fieldLinkNest own idx (T k).1 (T k).2.1 (T k).2.2.1 host).before args s = true)))
    (hd : decode cc pc = .ok (.putfield idx, 3)) (hz : zs_putf ini pc o idx L st h = some F) (k : zGo p l e R s m args below meth c Q D cl cA ad base nL c0 s0 F) : zGo p l e R s m args below meth c Q D cl cA ad base nL c0 s0 (pc, L, st, h) := by
  unfold zs_putf at hz
  split at hz
  · rename_i v a r
    split at hz
    · rename_i ci fs hc
      split at hz
      · rename_i ci' k' ne hf
        split at hz
        · rename_i hci
          obtain ⟨rfl, hlen, hfit, hfn⟩ := hci
          cases hz
          intro ls H locs cells slots g1 g2 g3 g4 g5
          obtain ⟨C, T, N, h1, h2, h3, hty, hnm, h4⟩ := hfl _ _ _ hf hfn
          obtain ⟨hn, hft⟩ := zfit_ok (ad := ad) hfit
          obtain ⟨w1, w2, w3, w4⟩ := g2.2 a _ hc
          have hap := va_apart (own := own) hts h3 (zty ci') hty hnm hK h1
          obtain ⟨r0, hr0, cell, q1, q2, q3, q4⟩ := w4
          have hr : r0 = (C, T, N) := Option.some.inj (hr0.symm.trans h1)
          subst hr
          obtain ⟨hS, hfc, kC, hkC, hkind⟩ := hK.1 ci' _ h1
          obtain ⟨cf, kf, fi, f, hi, hsl⟩ := hS k' h2
          have hst := (u_facts hfc hkC (u_lays hts h3 h2) hi).1
          have hlay := hts _ (h3 _ (u_in_lay h2))
          unfold u_lay at hlay
          have hlen' : k' < (fs.map (zv ad)).length := by simpa using hlen
          have hA : base ≤ ad a := by omega
          have fin : ∀ H' : Heap, H'[ad a]? = some (cell.setSlot f.slot (zv ad v)) → H'.size = H.size → (∀ q, q ≠ ad a → H'[q]? = H[q]?) → W p l e R s m args below meth c H' (locs ++ [⟨ad a, f.slot⟩]) cells slots Q (F0 m (pc + 3) ls (r.map (zv ad))) := by
            intro H' e1 e2 e3
            rw [hsl] at e1 ⊢
            refine k ls H' _ cells slots g1 (g2.set hc e2 e3 ?_) (g3.put e2 e3 hA) g4 g5
            show va_at D cl (ad a, .inr (ci', (fs.set k' v).map (zv ad))) H'
            rw [List.map_set]
            exact ⟨_, h1, t_OB.to (V := updV (vp_V (fs.map (zv ad))) k' (zv ad v)) ⟨_, e1, q2, q3, t_set q4 hap h2 (zv ad v)⟩ (fun j _ => vp_updV_set hlen' (zv ad v) j)⟩
          rcases h4 with ⟨hfin, hlink⟩ | ⟨hfin, hin2, hdecl, hlink⟩ | ⟨hfin, host, hlink⟩
          · rw [if_neg (by rw [hfin]; decide)] at hlay
            have h6 := u_store hfc hkC hkind hlay hi (hty k' h2) hn hft
            exact W.putK hx hb (f := f) ⟨hown, hlink, ⟨_, _, _, hi⟩, hst⟩ (by rw [q2]; exact h6) q1 q3 (by rw [hsl]; exact k2_hasslot (q4 k' h2)) rfl rfl hd fin
          · rw [if_pos hfin] at hlay
            have hcf : m.cls = cf := by
              obtain ⟨_, _, c', _, _, _, -, -, hf', -, -, -, hown2, -⟩ := Cond.laysFinal_spec hlay
              have e1 : c' = cf := by have := hi.symm.trans hf'; simp at this; exact this.1.symm
              rw [hdecl] at hown2
              rw [← e1]; exact Option.some.inj (hown.symm.trans hown2)
            have h6 := u_fits hfc hkC hkind (Or.inr hlay) hi (hty k' h2) hn hft
            exact W.putFinK hx hb hown hlink hi hst hcf hin2 (by rw [q2]; exact h6) q1 q3 (by rw [hsl]; exact k2_hasslot (q4 k' h2)) rfl rfl hd fin
          · rw [if_neg (by rw [hfin]; decide)] at hlay
            have h6 := u_store hfc hkC hkind hlay hi (hty k' h2) hn hft
            exact va_WputK hx hb (f := f) hown hlink hi hst (by rw [q2]; exact h6) q1 q3 (by rw [hsl]; exact k2_hasslot (q4 k' h2)) rfl rfl hd fin
        · cases hz
      · cases hz
    · cases hz
  · cases hz
theorem zo_ldc (hx : p.tables.exec = Jvm.exec) (hb : c.code = cc) (hown : s.vm.findClass own = some m.cls)
    (hld : ∀ v, zld o idx = some v → (∃ x, v = .int x ∧ (Cond.constant own idx x).before args s = true) ∨ (∃ k tx, v = .ref k ∧ vk_R own idx tx (ad k) s))
    (hd : decode cc pc = .ok (.ldc idx, 2)) (hz : zs_ldc pc o idx L st h = some F) (k : zGo p l e R s m args below meth c Q D cl cA ad base nL c0 s0 F) : zGo p l e R s m args below meth c Q D cl cA ad base nL c0 s0 (pc, L, st, h) := by
  unfold zs_ldc at hz
  split at hz
  · rename_i v hv
    cases hz
    intro ls H locs cells slots g1 g2 g3 g4 g5
    rcases hld _ hv with ⟨x, rfl, hc⟩ | ⟨q, tx, rfl, hc⟩
    · exact lv_ldc hx hb hown hc hd (k ls H locs cells slots g1 g2 g3 g4 g5)
    · exact va_ldcS hx hb hown hc hd (k ls H locs cells slots g1 g2 g3 g4 g5)
  · cases hz
theorem zo_ldc2 (hx : p.tables.exec = Jvm.exec) (hb : c.code = cc) (hown : s.vm.findClass own = some m.cls)
    (hld : ∀ x, zl2 o idx = some x → (Cond.constantLong own idx x).before args s = true)
    (hd : decode cc pc = .ok (.ldc2_w idx, 3)) (hz : zs_ldc2 pc o idx L st h = some F) (k : zGo p l e R s m args below meth c Q D cl cA ad base nL c0 s0 F) : zGo p l e R s m args below meth c Q D cl cA ad base nL c0 s0 (pc, L, st, h) := by
  unfold zs_ldc2 at hz
  split at hz
  · rename_i v hv
    cases hz
    intro ls H locs cells slots g1 g2 g3 g4 g5
    exact lv_ldc2 hx hb hown (hld _ hv) hd (k ls H locs cells slots g1 g2 g3 g4 g5)
  · cases hz
theorem zo_gets (hx : p.tables.exec = Jvm.exec) (hb : c.code = cc) (hown : s.vm.findClass own = some m.cls)
    (hsl : ∀ q, zsl X o idx = some q → ∃ C n d, va_Z C n d (zv ad q.1) (zA base) s s.heap ∧ ((Cond.fieldLink own idx C n d).before args s = true ∨ ∃ host, (Cond.fieldLinkNest own idx C n d host).before args s = true))
    (hd : decode cc pc = .ok (.getstatic idx, 3)) (hz : zs_gets pc o idx X L st h = some F) (k : zGo p l e R s m args below meth c Q D cl cA ad base nL c0 s0 F) : zGo p l e R s m args below meth c Q D cl cA ad base nL c0 s0 (pc, L, st, h) := by
  unfold zs_gets at hz
  split at hz
  · rename_i q hq
    cases hz
    intro ls H locs cells slots g1 g2 g3 g4 g5
    obtain ⟨C, n, d, hZ, h4⟩ := hsl _ hq
    rcases h4 with h4 | ⟨host, h4⟩
    · exact va_gets hx hb hZ g3 hown h4 (fun _ q => q) hd (k ls H locs cells slots g1 g2 g3 g4 g5)
    · exact va_getsN hx hb hZ g3 hown h4 (fun _ q => q) hd (k ls H locs cells slots g1 g2 g3 g4 g5)
  · cases hz
theorem zo_iaload (hx : p.tables.exec = Jvm.exec) (hb : c.code = cc) (hK : va_K D cl (ztys cA) s) (hka : ∀ a t n f, zka X a = some (t, n, f) → va_T (zkty t) (ad a) n (fun j => zv ad (f j)) (zA base) s s.heap) (hd : decode cc pc = .ok (.iaload, 1)) (hz : zs_ald pc 0 X L st h = some F) (k : zGo p l e R s m args below meth c Q D cl cA ad base nL c0 s0 F) : zGo p l e R s m args below meth c Q D cl cA ad base nL c0 s0 (pc, L, st, h) := by
  unfold zs_ald at hz
  split at hz
  · rename_i i a r
    split at hz
    · rename_i t' n f hc
      split at hz
      · rename_i hq
        obtain ⟨rfl, hq⟩ := hq
        cases hz
        intro ls H locs cells slots g1 g2 g3 g4 g5
        have hP := zP1 (g2.2 a _ hc).2.2.2
        exact va_iald (D := D) (cA := cA 0) hx hb hK hP 0 0 rfl rfl (zin_ok hq) hd (k ls H locs cells slots g1 g2 g3 g4 g5)
      · cases hz
    · cases hz
    · split at hz
      · rename_i t' n f hc
        split at hz
        · rename_i hq
          obtain ⟨rfl, hq⟩ := hq
          cases hz
          intro ls H locs cells slots g1 g2 g3 g4 g5
          exact va_ti hx hb (hka _ _ _ _ hc) g3 (zin_ok hq) rfl hd (k ls H locs cells slots g1 g2 g3 g4 g5)
        · cases hz
      · cases hz
  · cases hz
theorem zo_caload (hx : p.tables.exec = Jvm.exec) (hb : c.code = cc) (hK : va_K D cl (ztys cA) s) (hka : ∀ a t n f, zka X a = some (t, n, f) → va_T (zkty t) (ad a) n (fun j => zv ad (f j)) (zA base) s s.heap) (hd : decode cc pc = .ok (.caload, 1)) (hz : zs_ald pc 1 X L st h = some F) (k : zGo p l e R s m args below meth c Q D cl cA ad base nL c0 s0 F) : zGo p l e R s m args below meth c Q D cl cA ad base nL c0 s0 (pc, L, st, h) := by
  unfold zs_ald at hz
  split at hz
  · rename_i i a r
    split at hz
    · rename_i t' n f hc
      split at hz
      · rename_i hq
        obtain ⟨rfl, hq⟩ := hq
        cases hz
        intro ls H locs cells slots g1 g2 g3 g4 g5
        have hP := zP1 (g2.2 a _ hc).2.2.2
        exact va_cald (D := D) (cA := cA 1) hx hb hK hP 0 1 rfl rfl (zin_ok hq) hd (k ls H locs cells slots g1 g2 g3 g4 g5)
      · cases hz
    · cases hz
    · split at hz
      · rename_i t' n f hc
        split at hz
        · rename_i hq
          obtain ⟨rfl, hq⟩ := hq
          cases hz
          intro ls H locs cells slots g1 g2 g3 g4 g5
          exact va_tc hx hb (hka _ _ _ _ hc) g3 (zin_ok hq) rfl hd (k ls H locs cells slots g1 g2 g3 g4 g5)
        · cases hz
      · cases hz
  · cases hz
theorem zo_baload (hx : p.tables.exec = Jvm.exec) (hb : c.code = cc) (hK : va_K D cl (ztys cA) s) (hka : ∀ a t n f, zka X a = some (t, n, f) → va_T (zkty t) (ad a) n (fun j => zv ad (f j)) (zA base) s s.heap) (hd : decode cc pc = .ok (.baload, 1)) (hz : zs_bld pc X L st h = some F) (k : zGo p l e R s m args below meth c Q D cl cA ad base nL c0 s0 F) : zGo p l e R s m args below meth c Q D cl cA ad base nL c0 s0 (pc, L, st, h) := by
  unfold zs_bld at hz
  split at hz
  · rename_i i a r
    split at hz
    · rename_i t' n f hc
      split at hz
      · rename_i hq
        obtain ⟨rfl, hq⟩ := hq
        cases hz
        intro ls H locs cells slots g1 g2 g3 g4 g5
        have hP := zP1 (g2.2 a _ hc).2.2.2
        exact va_zald (D := D) (cA := cA 3) hx hb hK hP 0 3 rfl rfl (zin_ok hq) hd (k ls H locs cells slots g1 g2 g3 g4 g5)
      · cases hz
    · cases hz
    · split at hz
      · rename_i t' n f hc
        split at hz
        · rename_i hq
          obtain ⟨rfl, hq⟩ := hq
          cases hz
          intro ls H locs cells slots g1 g2 g3 g4 g5
          exact va_tb hx hb (hka _ _ _ _ hc) g3 (zin_ok hq) rfl hd (k ls H locs cells slots g1 g2 g3 g4 g5)
        · cases hz
      · cases hz
  · cases hz
theorem zo_laload (hx : p.tables.exec = Jvm.exec) (hb : c.code = cc) (hK : va_K D cl (ztys cA) s) (hd : decode cc pc = .ok (.laload, 1)) (hz : zs_jld pc L st h = some F) (k : zGo p l e R s m args below meth c Q D cl cA ad base nL c0 s0 F) : zGo p l e R s m args below meth c Q D cl cA ad base nL c0 s0 (pc, L, st, h) := by
  unfold zs_jld at hz
  split at hz
  · rename_i i a r
    split at hz
    · rename_i t' n f hc
      split at hz
      · rename_i hq
        obtain ⟨rfl, hq⟩ := hq
        cases hz
        intro ls H locs cells slots g1 g2 g3 g4 g5
        have hP := zP1 (g2.2 a _ hc).2.2.2
        exact va_lald (D := D) (cA := cA 2) hx hb hK hP 0 2 rfl rfl (zin_ok hq) hd (k ls H locs cells slots g1 g2 g3 g4 g5)
      · cases hz
    · cases hz
  · cases hz
theorem zrf_map (ad : Nat → Nat) (r : Option Nat) : va_rf (r.map ad) = zv ad (va_rf r) := by cases r <;> rfl
theorem zo_aaload (hx : p.tables.exec = Jvm.exec) (hb : c.code = cc) (hK : va_K D cl (ztys cA) s) (hka : ∀ a t n f, zka X a = some (t, n, f) → va_T (zkty t) (ad a) n (fun j => zv ad (f j)) (zA base) s s.heap) (hd : decode cc pc = .ok (.aaload, 1)) (hz : zs_rld pc X L st h = some F) (k : zGo p l e R s m args below meth c Q D cl cA ad base nL c0 s0 F) : zGo p l e R s m args below meth c Q D cl cA ad base nL c0 s0 (pc, L, st, h) := by
  unfold zs_rld at hz
  split at hz
  · rename_i i a r
    split at hz
    · rename_i t' n f hc
      split at hz
      · rename_i hq
        obtain ⟨rfl, hq⟩ := hq
        cases hz
        intro ls H locs cells slots g1 g2 g3 g4 g5
        have hP := zP1 (g2.2 a _ hc).2.2.2
        refine va_aldq (D := D) (cA := cA 5) hx hb hK hP 0 5 rfl rfl (zin_ok hq) hd ?_
        have hk := k ls H locs cells slots g1 g2 g3 g4 g5
        rw [zrf_map]
        exact hk
      · cases hz
    · cases hz
    · split at hz
      · rename_i t' n f hc
        split at hz
        · rename_i hq
          obtain ⟨rfl, hq⟩ := hq
          cases hz
          intro ls H locs cells slots g1 g2 g3 g4 g5
          exact vb_tq hx hb (hka _ _ _ _ hc) g3 (zin_ok hq) rfl hd (k ls H locs cells slots g1 g2 g3 g4 g5)
        · cases hz
      · cases hz
  · cases hz
theorem zo_iastore (hx : p.tables.exec = Jvm.exec) (hb : c.code = cc) (hK : va_K D cl (ztys cA) s) (hd : decode cc pc = .ok (.iastore, 1)) (hz : zs_ast pc 0 .int L st h = some F) (k : zGo p l e R s m args below meth c Q D cl cA ad base nL c0 s0 F) : zGo p l e R s m args below meth c Q D cl cA ad base nL c0 s0 (pc, L, st, h) := by
  unfold zs_ast at hz
  split at hz
  · rename_i x i a r
    split at hz
    · rename_i t' n f hc
      split at hz
      · rename_i hq
        obtain ⟨rfl, hq⟩ := hq
        cases hz
        intro ls H locs cells slots g1 g2 g3 g4 g5
        obtain ⟨w1, w2, w3, w4⟩ := g2.2 a _ hc
        have hin := zin_ok hq
        refine W.iast hx hb (cell := vp_cell (cA 0) (n, .inl f)) w4 ((hK.2 0 _ rfl).1 n (fun j => .int (f j))) (fun q => by cases q) (by show ¬ (i < 0 ∨ (arrV _ _ _).slots.size ≤ _); rw [arrV_size]; exact hin) rfl rfl hd fun H1 e z oq => ?_
        refine k ls H1 _ cells slots g1 (g2.set hc z oq ?_) (g3.put z oq (show base ≤ ad a by omega)) g4 g5
        show H1[ad a]? = some (vp_cell (cA 0) (n, .inl (upd f i.toNatClampNeg (vp_nar .int x))))
        rw [e]
        rw [vp_cell_i, vp_cell_i, arrV_store]
        congr 2
        funext q
        by_cases hq : q = i.toNatClampNeg
        · subst hq
          simp [updV, upd, vp_nar]
          try rfl
        · simp [updV, upd, hq]
      · cases hz
    · cases hz
  · cases hz
theorem zo_castore (hx : p.tables.exec = Jvm.exec) (hb : c.code = cc) (hK : va_K D cl (ztys cA) s) (hd : decode cc pc = .ok (.castore, 1)) (hz : zs_ast pc 1 .char L st h = some F) (k : zGo p l e R s m args below meth c Q D cl cA ad base nL c0 s0 F) : zGo p l e R s m args below meth c Q D cl cA ad base nL c0 s0 (pc, L, st, h) := by
  unfold zs_ast at hz
  split at hz
  · rename_i x i a r
    split at hz
    · rename_i t' n f hc
      split at hz
      · rename_i hq
        obtain ⟨rfl, hq⟩ := hq
        cases hz
        intro ls H locs cells slots g1 g2 g3 g4 g5
        obtain ⟨w1, w2, w3, w4⟩ := g2.2 a _ hc
        have hin := zin_ok hq
        refine W.cast hx hb (cell := vp_cell (cA 1) (n, .inl f)) w4 ((hK.2 1 _ rfl).1 n (fun j => .int (f j))) (fun q => by cases q) (by show ¬ (i < 0 ∨ (arrV _ _ _).slots.size ≤ _); rw [arrV_size]; exact hin) rfl rfl hd fun H1 e z oq => ?_
        refine k ls H1 _ cells slots g1 (g2.set hc z oq ?_) (g3.put z oq (show base ≤ ad a by omega)) g4 g5
        show H1[ad a]? = some (vp_cell (cA 1) (n, .inl (upd f i.toNatClampNeg (vp_nar .char x))))
        rw [e]
        rw [vp_cell_i, vp_cell_i, arrV_store]
        congr 2
        funext q
        by_cases hq : q = i.toNatClampNeg
        · subst hq
          simp [updV, upd, vp_nar]
          try rfl
        · simp [updV, upd, hq]
      · cases hz
    · cases hz
  · cases hz
theorem zo_bastore (hx : p.tables.exec = Jvm.exec) (hb : c.code = cc) (hK : va_K D cl (ztys cA) s) (hd : decode cc pc = .ok (.bastore, 1)) (hz : zs_ast pc 3 .boolean L st h = some F) (k : zGo p l e R s m args below meth c Q D cl cA ad base nL c0 s0 F) : zGo p l e R s m args below meth c Q D cl cA ad base nL c0 s0 (pc, L, st, h) := by
  unfold zs_ast at hz
  split at hz
  · rename_i x i a r
    split at hz
    · rename_i t' n f hc
      split at hz
      · rename_i hq
        obtain ⟨rfl, hq⟩ := hq
        cases hz
        intro ls H locs cells slots g1 g2 g3 g4 g5
        obtain ⟨w1, w2, w3, w4⟩ := g2.2 a _ hc
        have hin := zin_ok hq
        refine W.zast hx hb (cell := vp_cell (cA 3) (n, .inl f)) w4 ((hK.2 3 _ rfl).1 n (fun j => .int (f j))) (fun q => by cases q) (by show ¬ (i < 0 ∨ (arrV _ _ _).slots.size ≤ _); rw [arrV_size]; exact hin) rfl rfl hd fun H1 e z oq => ?_
        refine k ls H1 _ cells slots g1 (g2.set hc z oq ?_) (g3.put z oq (show base ≤ ad a by omega)) g4 g5
        show H1[ad a]? = some (vp_cell (cA 3) (n, .inl (upd f i.toNatClampNeg (vp_nar .boolean x))))
        rw [e]
        rw [vp_cell_i, vp_cell_i, arrV_store]
        congr 2
        funext q
        by_cases hq : q = i.toNatClampNeg
        · subst hq
          simp [updV, upd, vp_nar]
          try rfl
        · simp [updV, upd, hq]
      · cases hz
    · cases hz
  · cases hz
theorem zo_lastore (hx : p.tables.exec = Jvm.exec) (hb : c.code = cc) (hK : va_K D cl (ztys cA) s) (hd : decode cc pc = .ok (.lastore, 1)) (hz : zs_jst pc L st h = some F) (k : zGo p l e R s m args below meth c Q D cl cA ad base nL c0 s0 F) : zGo p l e R s m args below meth c Q D cl cA ad base nL c0 s0 (pc, L, st, h) := by
  unfold zs_jst at hz
  split at hz
  · rename_i x i a r
    split at hz
    · rename_i t' n f hc
      split at hz
      · rename_i hq
        obtain ⟨rfl, hq⟩ := hq
        cases hz
        intro ls H locs cells slots g1 g2 g3 g4 g5
        obtain ⟨w1, w2, w3, w4⟩ := g2.2 a _ hc
        have hin := zin_ok hq
        refine W.last hx hb (cell := vp_cell (cA 2) (n, .inr (.inl f))) w4 ((hK.2 2 _ rfl).1 n (fun j => .long (f j))) (fun q => by cases q) (by show ¬ (i < 0 ∨ (arrV _ _ _).slots.size ≤ _); rw [arrV_size]; exact hin) rfl rfl hd fun H1 e z oq => ?_
        refine k ls H1 _ cells slots g1 (g2.set hc z oq ?_) (g3.put z oq (show base ≤ ad a by omega)) g4 g5
        show H1[ad a]? = some (vp_cell (cA 2) (n, .inr (.inl (vp_updL f i.toNatClampNeg x))))
        rw [e]
        rw [vp_cell_l, vp_cell_l, arrV_store]
        congr 2
        funext q
        by_cases hq : q = i.toNatClampNeg
        · subst hq
          simp [updV, vp_updL]
        · simp [updV, vp_updL, hq]
      · cases hz
    · cases hz
  · cases hz
theorem zo_aastore (hx : p.tables.exec = Jvm.exec) (hb : c.code = cc) (hK : va_K D cl (ztys cA) s) (hpat : cl[zPat]? = some zPatC) (hpn : zPatC.1 = zPatN) (hd : decode cc pc = .ok (.aastore, 1)) (hz : zs_rst pc L st h = some F) (k : zGo p l e R s m args below meth c Q D cl cA ad base nL c0 s0 F) : zGo p l e R s m args below meth c Q D cl cA ad base nL c0 s0 (pc, L, st, h) := by
  unfold zs_rst at hz
  split at hz
  · rename_i b i a r
    split at hz
    · rename_i t' n f ci vs hc hcb
      split at hz
      · rename_i hq
        obtain ⟨rfl, rfl, hq⟩ := hq
        cases hz
        intro ls H locs cells slots g1 g2 g3 g4 g5
        obtain ⟨w1, w2, w3, w4⟩ := g2.2 a _ hc
        obtain ⟨v1, v2, v3, r0, hr0, cellV, y1, y2, y3, -⟩ := g2.2 b _ hcb
        have hin := zin_ok hq
        have hlt : i.toNatClampNeg < n := Nat.not_le.mp fun q => hin (Or.inr q)
        have h0 : ¬ i < 0 := fun q => hin (Or.inl q)
        have hcls := (hK.1 zPat zPatC hpat).2
        obtain ⟨kA, comp, k1, k2, k3, -⟩ := (hK.2 5 _ rfl).2
        rw [hpn] at hcls
        have hcomp : comp = D.1 zPat := Option.some.inj (k3.symm.trans hcls.1)
        subst hcomp
        obtain ⟨kC, hkC, -⟩ := hcls.2
        refine W.aast hx hb (cell := vp_cell (cA 5) (n, .inr (.inr (.inr (.inr (fun j => (f j).map ad)))))) w4 (fun q h => by cases h) (fun h => by cases h) k1 k2 rfl hkC ⟨h0, by show _ < (arrV _ _ _).slots.size; rw [arrV_size]; exact hlt⟩ y1 (fun q h => by rw [y3] at h; cases h) (by rw [y2]; exact hkC) (by rw [y2]; exact va_assign hcls) rfl rfl hd fun H1 e z oq => ?_
        refine k ls H1 _ cells slots g1 (g2.set hc z oq ?_) (g3.put z oq (show base ≤ ad a by omega)) g4 g5
        show H1[ad a]? = some (vp_cell (cA 5) (n, .inr (.inr (.inr (.inr (fun j => (va_up f i.toNatClampNeg (some b) j).map ad))))))
        rw [e]
        rw [vp_cell_q, vp_cell_q, arrV_store]
        congr 2
        funext q
        by_cases hq : q = i.toNatClampNeg
        · subst hq
          simp [updV, va_up, va_rf]
        · simp [updV, va_up, hq]
      · cases hz
    · cases hz
  · cases hz
theorem zo_len (hx : p.tables.exec = Jvm.exec) (hb : c.code = cc) (hK : va_K D cl (ztys cA) s) (hka : ∀ a t n f, zka X a = some (t, n, f) → va_T (zkty t) (ad a) n (fun j => zv ad (f j)) (zA base) s s.heap) (hd : decode cc pc = .ok (.arraylength, 1)) (hz : zs_len pc X L st h = some F) (k : zGo p l e R s m args below meth c Q D cl cA ad base nL c0 s0 F) : zGo p l e R s m args below meth c Q D cl cA ad base nL c0 s0 (pc, L, st, h) := by
  unfold zs_len at hz
  split at hz
  · rename_i a r
    split at hz
    · rename_i t' q hc
      split at hz
      · rename_i hq
        cases hz
        intro ls H locs cells slots g1 g2 g3 g4 g5
        have hP := zP1 (g2.2 a _ hc).2.2.2
        have hq1 : (zvA ad q).1 = q.1 := by unfold zvA; split <;> rfl
        have ht : ∃ ty, (ztys cA)[t']? = some (cA t', ty) := by
          rcases (show t' = 0 ∨ t' = 1 ∨ t' = 2 ∨ t' = 3 ∨ t' = 4 ∨ t' = 5 by omega) with rfl | rfl | rfl | rfl | rfl | rfl <;> exact ⟨_, rfl⟩
        obtain ⟨ty, ht⟩ := ht
        exact va_alen (D := D) (cA := cA t') (x := zvA ad q) hx hb hK hP 0 t' rfl ht (by rw [hq1]) hd (k ls H locs cells slots g1 g2 g3 g4 g5)
      · cases hz
    · cases hz
    · split at hz
      · rename_i t' n f hc
        cases hz
        intro ls H locs cells slots g1 g2 g3 g4 g5
        exact va_tlen hx hb (hka _ _ _ _ hc) g3 rfl hd (k ls H locs cells slots g1 g2 g3 g4 g5)
      · cases hz
  · cases hz
theorem zo_newa_int (hx : p.tables.exec = Jvm.exec) (hb : c.code = cc) (hK : va_K D cl (ztys cA) s) (hadd : ∀ i, ad (zK + i) = base + i) (harr : (Cond.arrayClass .int).before args s = true) (hRc : F.2.2.2.1 ≤ c0 + R.cells) (hRs : F.2.2.2.2.1 ≤ s0 + R.slots) (hd : decode cc pc = .ok (.newarray .int, 2)) (hz : zs_newa pc 0 (fun n => (n, .inl (fun _ => 0))) L st h = some F) (k : zGo p l e R s m args below meth c Q D cl cA ad base nL c0 s0 F) : zGo p l e R s m args below meth c Q D cl cA ad base nL c0 s0 (pc, L, st, h) := by
  unfold zs_newa at hz
  split at hz
  · rename_i n r
    split at hz
    · rename_i hq
      cases hz
      intro ls H locs cells slots g1 g2 g3 g4 g5
      have hn := zclamp hq.1
      have hnc : (n.toNatClampNeg : Int) = n.toInt := by show ((n.toInt.toNat : Nat) : Int) = n.toInt; omega
      have r1 : h.1 + 1 ≤ c0 + R.cells := hRc
      have r2 : h.2.1 + n.toNatClampNeg ≤ s0 + R.slots := hRs
      have g4' : cells + c0 = h.1 := g4
      have g5' : slots + s0 = h.2.1 := g5
      have hbt : n.toNatClampNeg * 4 ≤ 536870912 := by omega
      refine va_newaK (atype := .int) hx hb harr rfl hd rfl hn rfl hbt (by omega) (by omega) rfl fun H1 cB e1 z1 o1 hAr hNm => ?_
      have hcB : cB = cA 0 := Option.some.inj (hNm.symm.trans (hK.2 0 _ rfl).2)
      subst hcB
      have hk := k ls H1 locs (cells + 1) (slots + n.toNatClampNeg) g1 (g2.push (n := n.toNatClampNeg) hadd z1 o1 (show H1[H.size]? = some (vp_cell (cA 0) (n.toNatClampNeg, .inl (fun _ => 0))) from by rw [vp_cell_i]; exact e1)) ⟨Nat.le_trans g3.1 (by omega), fun q w1 w2 => (o1 q (Nat.lt_of_lt_of_le w1 g3.1)).trans (g3.2.1 q w1 w2), g3.2.2⟩ (by show cells + 1 + c0 = h.1 + 1; omega) (by show slots + n.toNatClampNeg + s0 = h.2.1 + n.toNatClampNeg; omega)
      have e9 : ad (zK + h.1) = H.size := by rw [hadd]; exact g2.1.symm
      have hk' : W p l e R s m args below meth c H1 locs (cells + 1) (slots + n.toNatClampNeg) Q (F0 m (pc + 2) ls (.ref (ad (zK + h.1)) :: r.map (zv ad))) := hk
      rw [e9] at hk'
      exact hk'
    · cases hz
  · cases hz
theorem zo_newa_char (hx : p.tables.exec = Jvm.exec) (hb : c.code = cc) (hK : va_K D cl (ztys cA) s) (hadd : ∀ i, ad (zK + i) = base + i) (harr : (Cond.arrayClass .char).before args s = true) (hRc : F.2.2.2.1 ≤ c0 + R.cells) (hRs : F.2.2.2.2.1 ≤ s0 + R.slots) (hd : decode cc pc = .ok (.newarray .char, 2)) (hz : zs_newa pc 1 (fun n => (n, .inl (fun _ => 0))) L st h = some F) (k : zGo p l e R s m args below meth c Q D cl cA ad base nL c0 s0 F) : zGo p l e R s m args below meth c Q D cl cA ad base nL c0 s0 (pc, L, st, h) := by
  unfold zs_newa at hz
  split at hz
  · rename_i n r
    split at hz
    · rename_i hq
      cases hz
      intro ls H locs cells slots g1 g2 g3 g4 g5
      have hn := zclamp hq.1
      have hnc : (n.toNatClampNeg : Int) = n.toInt := by show ((n.toInt.toNat : Nat) : Int) = n.toInt; omega
      have r1 : h.1 + 1 ≤ c0 + R.cells := hRc
      have r2 : h.2.1 + n.toNatClampNeg ≤ s0 + R.slots := hRs
      have g4' : cells + c0 = h.1 := g4
      have g5' : slots + s0 = h.2.1 := g5
      have hbt : n.toNatClampNeg * 2 ≤ 536870912 := by omega
      refine va_newaK (atype := .char) hx hb harr rfl hd rfl hn rfl hbt (by omega) (by omega) rfl fun H1 cB e1 z1 o1 hAr hNm => ?_
      have hcB : cB = cA 1 := Option.some.inj (hNm.symm.trans (hK.2 1 _ rfl).2)
      subst hcB
      have hk := k ls H1 locs (cells + 1) (slots + n.toNatClampNeg) g1 (g2.push (n := n.toNatClampNeg) hadd z1 o1 (show H1[H.size]? = some (vp_cell (cA 1) (n.toNatClampNeg, .inl (fun _ => 0))) from by rw [vp_cell_i]; exact e1)) ⟨Nat.le_trans g3.1 (by omega), fun q w1 w2 => (o1 q (Nat.lt_of_lt_of_le w1 g3.1)).trans (g3.2.1 q w1 w2), g3.2.2⟩ (by show cells + 1 + c0 = h.1 + 1; omega) (by show slots + n.toNatClampNeg + s0 = h.2.1 + n.toNatClampNeg; omega)
      have e9 : ad (zK + h.1) = H.size := by rw [hadd]; exact g2.1.symm
      have hk' : W p l e R s m args below meth c H1 locs (cells + 1) (slots + n.toNatClampNeg) Q (F0 m (pc + 2) ls (.ref (ad (zK + h.1)) :: r.map (zv ad))) := hk
      rw [e9] at hk'
      exact hk'
    · cases hz
  · cases hz
theorem zo_newa_long (hx : p.tables.exec = Jvm.exec) (hb : c.code = cc) (hK : va_K D cl (ztys cA) s) (hadd : ∀ i, ad (zK + i) = base + i) (harr : (Cond.arrayClass .long).before args s = true) (hRc : F.2.2.2.1 ≤ c0 + R.cells) (hRs : F.2.2.2.2.1 ≤ s0 + R.slots) (hd : decode cc pc = .ok (.newarray .long, 2)) (hz : zs_newa pc 2 (fun n => (n, .inr (.inl (fun _ => 0)))) L st h = some F) (k : zGo p l e R s m args below meth c Q D cl cA ad base nL c0 s0 F) : zGo p l e R s m args below meth c Q D cl cA ad base nL c0 s0 (pc, L, st, h) := by
  unfold zs_newa at hz
  split at hz
  · rename_i n r
    split at hz
    · rename_i hq
      cases hz
      intro ls H locs cells slots g1 g2 g3 g4 g5
      have hn := zclamp hq.1
      have hnc : (n.toNatClampNeg : Int) = n.toInt := by show ((n.toInt.toNat : Nat) : Int) = n.toInt; omega
      have r1 : h.1 + 1 ≤ c0 + R.cells := hRc
      have r2 : h.2.1 + n.toNatClampNeg ≤ s0 + R.slots := hRs
      have g4' : cells + c0 = h.1 := g4
      have g5' : slots + s0 = h.2.1 := g5
      have hbt : n.toNatClampNeg * 8 ≤ 536870912 := by omega
      refine va_newaK (atype := .long) hx hb harr rfl hd rfl hn rfl hbt (by omega) (by omega) rfl fun H1 cB e1 z1 o1 hAr hNm => ?_
      have hcB : cB = cA 2 := Option.some.inj (hNm.symm.trans (hK.2 2 _ rfl).2)
      subst hcB
      have hk := k ls H1 locs (cells + 1) (slots + n.toNatClampNeg) g1 (g2.push (n := n.toNatClampNeg) hadd z1 o1 (show H1[H.size]? = some (vp_cell (cA 2) (n.toNatClampNeg, .inr (.inl (fun _ => 0)))) from by rw [vp_cell_l]; exact e1)) ⟨Nat.le_trans g3.1 (by omega), fun q w1 w2 => (o1 q (Nat.lt_of_lt_of_le w1 g3.1)).trans (g3.2.1 q w1 w2), g3.2.2⟩ (by show cells + 1 + c0 = h.1 + 1; omega) (by show slots + n.toNatClampNeg + s0 = h.2.1 + n.toNatClampNeg; omega)
      have e9 : ad (zK + h.1) = H.size := by rw [hadd]; exact g2.1.symm
      have hk' : W p l e R s m args below meth c H1 locs (cells + 1) (slots + n.toNatClampNeg) Q (F0 m (pc + 2) ls (.ref (ad (zK + h.1)) :: r.map (zv ad))) := hk
      rw [e9] at hk'
      exact hk'
    · cases hz
  · cases hz
theorem zo_newa_boolean (hx : p.tables.exec = Jvm.exec) (hb : c.code = cc) (hK : va_K D cl (ztys cA) s) (hadd : ∀ i, ad (zK + i) = base + i) (harr : (Cond.arrayClass .boolean).before args s = true) (hRc : F.2.2.2.1 ≤ c0 + R.cells) (hRs : F.2.2.2.2.1 ≤ s0 + R.slots) (hd : decode cc pc = .ok (.newarray .boolean, 2)) (hz : zs_newa pc 3 (fun n => (n, .inl (fun _ => 0))) L st h = some F) (k : zGo p l e R s m args below meth c Q D cl cA ad base nL c0 s0 F) : zGo p l e R s m args below meth c Q D cl cA ad base nL c0 s0 (pc, L, st, h) := by
  unfold zs_newa at hz
  split at hz
  · rename_i n r
    split at hz
    · rename_i hq
      cases hz
      intro ls H locs cells slots g1 g2 g3 g4 g5
      have hn := zclamp hq.1
      have hnc : (n.toNatClampNeg : Int) = n.toInt := by show ((n.toInt.toNat : Nat) : Int) = n.toInt; omega
      have r1 : h.1 + 1 ≤ c0 + R.cells := hRc
      have r2 : h.2.1 + n.toNatClampNeg ≤ s0 + R.slots := hRs
      have g4' : cells + c0 = h.1 := g4
      have g5' : slots + s0 = h.2.1 := g5
      have hbt : n.toNatClampNeg * 1 ≤ 536870912 := by omega
      refine va_newaK (atype := .boolean) hx hb harr rfl hd rfl hn rfl hbt (by omega) (by omega) rfl fun H1 cB e1 z1 o1 hAr hNm => ?_
      have hcB : cB = cA 3 := Option.some.inj (hNm.symm.trans (hK.2 3 _ rfl).2)
      subst hcB
      have hk := k ls H1 locs (cells + 1) (slots + n.toNatClampNeg) g1 (g2.push (n := n.toNatClampNeg) hadd z1 o1 (show H1[H.size]? = some (vp_cell (cA 3) (n.toNatClampNeg, .inl (fun _ => 0))) from by rw [vp_cell_i]; exact e1)) ⟨Nat.le_trans g3.1 (by omega), fun q w1 w2 => (o1 q (Nat.lt_of_lt_of_le w1 g3.1)).trans (g3.2.1 q w1 w2), g3.2.2⟩ (by show cells + 1 + c0 = h.1 + 1; omega) (by show slots + n.toNatClampNeg + s0 = h.2.1 + n.toNatClampNeg; omega)
      have e9 : ad (zK + h.1) = H.size := by rw [hadd]; exact g2.1.symm
      have hk' : W p l e R s m args below meth c H1 locs (cells + 1) (slots + n.toNatClampNeg) Q (F0 m (pc + 2) ls (.ref (ad (zK + h.1)) :: r.map (zv ad))) := hk
      rw [e9] at hk'
      exact hk'
    · cases hz
  · cases hz
theorem zo_anew (hx : p.tables.exec = Jvm.exec) (hb : c.code = cc) (hown : s.vm.findClass own = some m.cls) (hK : va_K D cl (ztys cA) s) (hadd : ∀ i, ad (zK + i) = base + i) (hal : zal o idx = true → (Cond.classLink own idx zPatN).before args s = true ∧ (Cond.arrayOver (.object zPatN)).before args s = true) (hRc : F.2.2.2.1 ≤ c0 + R.cells) (hRs : F.2.2.2.2.1 ≤ s0 + R.slots) (hd : decode cc pc = .ok (.anewarray idx, 3)) (hz : zs_anew pc o idx L st h = some F) (k : zGo p l e R s m args below meth c Q D cl cA ad base nL c0 s0 F) : zGo p l e R s m args below meth c Q D cl cA ad base nL c0 s0 (pc, L, st, h) := by
  unfold zs_anew at hz
  split at hz
  · rename_i n r
    split at hz
    · rename_i hq
      obtain ⟨hl, hq⟩ := hq
      cases hz
      intro ls H locs cells slots g1 g2 g3 g4 g5
      obtain ⟨l1, l2⟩ := hal hl
      have hn := zclamp hq.1
      have hnc : (n.toNatClampNeg : Int) = n.toInt := by show ((n.toInt.toNat : Nat) : Int) = n.toInt; omega
      have r1 : h.1 + 1 ≤ c0 + R.cells := hRc
      have r2 : h.2.1 + n.toNatClampNeg ≤ s0 + R.slots := hRs
      have g4' : cells + c0 = h.1 := g4
      have g5' : slots + s0 = h.2.1 := g5
      refine W.anew hx hb hown l1 l2 rfl hd rfl hn (by omega) (by omega) (by omega) fun cB kA comp f1 f2 f3 f4 => ?_
      have hcB : cB = cA 5 := by
        obtain ⟨kA', comp', -, -, -, h9⟩ := (hK.2 5 _ rfl).2
        exact Option.some.inj (f1.symm.trans h9)
      subst hcB
      generalize hH1 : H.push ({ cls := cA 5, slots := Array.replicate n.toNatClampNeg .null, vm := .none } : Cell) = H1
      have z1 : H1.size = H.size + 1 := by rw [← hH1, Array.size_push]
      have e1 : H1[H.size]? = some (arrV (cA 5) n.toNatClampNeg (fun _ => .null)) := by rw [← hH1, Array.getElem?_push_size, ← arrV_new]
      have o1 : ∀ q : Nat, q < H.size → H1[q]? = H[q]? := fun q hq => by rw [← hH1, Array.getElem?_push, if_neg (Nat.ne_of_lt hq)]
      have hk := k ls H1 locs (cells + 1) (slots + n.toNatClampNeg) g1 (g2.push (n := n.toNatClampNeg) hadd z1 o1 (show H1[H.size]? = some (vp_cell (cA 5) (n.toNatClampNeg, .inr (.inr (.inr (.inr (fun _ => none)))))) from by rw [vp_cell_q]; exact e1)) ⟨Nat.le_trans g3.1 (by omega), fun q w1 w2 => (o1 q (Nat.lt_of_lt_of_le w1 g3.1)).trans (g3.2.1 q w1 w2), g3.2.2⟩ (by show cells + 1 + c0 = h.1 + 1; omega) (by show slots + n.toNatClampNeg + s0 = h.2.1 + n.toNatClampNeg; omega)
      have e9 : ad (zK + h.1) = H.size := by rw [hadd]; exact g2.1.symm
      have hk' : W p l e R s m args below meth c H1 locs (cells + 1) (slots + n.toNatClampNeg) Q (F0 m (pc + 3) ls (.ref (ad (zK + h.1)) :: r.map (zv ad))) := hk
      rw [e9] at hk'
      exact hk'
    · cases hz
  · cases hz
theorem zo_new (hx : p.tables.exec = Jvm.exec) (hb : c.code = cc) (hown : s.vm.findClass own = some m.cls) (hts : ∀ w ∈ Ts, w.before args s = true) (hK : va_K D cl (ztys cA) s) (hadd : ∀ i, ad (zK + i) = base + i)
    (hcl : ∀ ci, zcl o idx = some ci → ∃ C T, cl[ci]? = some (C, T, (zdef ci).length) ∧ (∀ w ∈ u_ws C T (zdef ci).length, w ∈ Ts) ∧ (∀ x, x < (zdef ci).length → parseFieldDescriptor (T x).2.2.1 = some (zty ci x)) ∧ (∀ j, j < (zdef ci).length → defaultValue (zty ci j) = vp_V ((zdef ci).map (zv ad)) j) ∧ (Cond.classLink own idx C).before args s = true ∧ (Cond.instantiable C (zdef ci).length).before args s = true ∧ (Cond.initialized C).before args s = true)
    (hRc : F.2.2.2.1 ≤ c0 + R.cells) (hRs : F.2.2.2.2.1 ≤ s0 + R.slots) (hd : decode cc pc = .ok (.new idx, 3)) (hz : zs_new pc o idx L st h = some F) (k : zGo p l e R s m args below meth c Q D cl cA ad base nL c0 s0 F) : zGo p l e R s m args below meth c Q D cl cA ad base nL c0 s0 (pc, L, st, h) := by
  unfold zs_new at hz
  split at hz
  · rename_i ci hci
    cases hz
    intro ls H locs cells slots g1 g2 g3 g4 g5
    obtain ⟨C, T, hc, h3, hty, hdf, l1, l2, l3⟩ := hcl _ hci
    have r1 : h.1 + 1 ≤ c0 + R.cells := hRc
    have r2 : h.2.1 + (zdef ci).length ≤ s0 + R.slots := hRs
    have g4' : cells + c0 = h.1 := g4
    have g5' : slots + s0 = h.2.1 := g5
    have hKn := hK.1 ci _ hc
    refine W.newcK hx hb hown l1 l2 l3 rfl hd (by omega) (by omega) hKn.2.1 rfl fun H1 kC hkC e1 z1 o1 => ?_
    have hk := k ls H1 locs (cells + 1) (slots + (zdef ci).length) g1 (g2.push (n := (zdef ci).length) hadd z1 o1 (show va_at D cl (H.size, .inr (ci, (zdef ci).map (zv ad))) H1 from ⟨_, hc, (u_born (zty ci) hts h3 hKn hkC e1 hty).to hdf⟩)) ⟨Nat.le_trans g3.1 (by omega), fun q w1 w2 => (o1 q (Nat.lt_of_lt_of_le w1 g3.1)).trans (g3.2.1 q w1 w2), g3.2.2⟩ (by show cells + 1 + c0 = h.1 + 1; omega) (by show slots + (zdef ci).length + s0 = h.2.1 + (zdef ci).length; omega)
    have e9 : ad (zK + h.1) = H.size := by rw [hadd]; exact g2.1.symm
    have hk' : W p l e R s m args below meth c H1 locs (cells + 1) (slots + (zdef ci).length) Q (F0 m (pc + 3) ls (.ref (ad (zK + h.1)) :: st.map (zv ad))) := hk
    rw [e9] at hk'
    exact hk'
  · cases hz
end ZP
end
section
/-! RUNS of the pure machine: calls and returns -/
def zentl (vs : List Value) : zL := match vs with
  | [] => []
  | v :: r => if v.category = 2 then some v :: none :: zentl r else some v :: zentl r
def zent (n : Nat) (vs : List Value) : zL := zentl vs ++ List.replicate (n - (zentl vs).length) none
def zrfit (t : Option FieldType) (x : Int32) : Bool := match t with
  | some .int => true
  | some .boolean => x == 0 || x == 1
  | some .char => decide (narrow .char (.int x) = .int x)
  | some .byte => decide (narrow .byte (.int x) = .int x)
  | _ => false
def zret (t : Option FieldType) (i : Jvm.ClassFile.Instr) (st : List Value) : Option (Option Value) := match i with
  | .ireturn => (match st with
    | [.int x] => if zrfit t x = true then some (some (.int x)) else none
    | _ => none)
  | .lreturn => (match st with
    | [.long x] => if t = some .long then some (some (.long x)) else none
    | _ => none)
  | .areturn => (match st with
    | [.ref a] => if zrref t = true then some (some (.ref a)) else none
    | [.null] => if zrref t = true then some (some .null) else none
    | _ => none)
  | .return_ => (match st with
    | [] => if t = none then some none else none
    | _ => none)
  | _ => none
def zinv (o : Nat) (i : Jvm.ClassFile.Instr) : Option (Nat × Nat × Nat) := match i with
  | .invokevirtual idx => (match zml o idx with
    | some (0, j, n) => some (0, j, n)
    | some (1, j, n) => some (1, j, n)
    | _ => none)
  | .invokestatic idx => (match zml o idx with
    | some (2, j, n) => some (2, j, n)
    | some (3, j, n) => some (3, j, n)
    | _ => none)
  | .invokespecial idx => (match zml o idx with
    | some (4, j, n) => some (4, j, n)
    | some (5, j, n) => some (5, j, n)
    | _ => none)
  | _ => none
/-- the class of a receiver, by its number -/
def zrcv (h : zH) (b : Nat) : Option Nat := match h.2.2 b with
  | some (.inr (ci, _)) => some ci
  | some (.inl _) => none
  | none => zko b
def zprep (q : Nat × Nat × Nat) (st : List Value) (h : zH) : Option (List Value × List Value) :=
  if st.length < q.2.2 then none else
  if q.1 = 2 ∨ q.1 = 3 then (if ((st.drop q.2.2).map fun v => v.category).sum ≤ 8 ∧ (zentl (st.take q.2.2).reverse).length ≤ zmaxL q.2.1 then some ((st.take q.2.2).reverse, st.drop q.2.2) else none)
  else match st.drop q.2.2 with
    | .ref b :: r => if (r.map fun v => v.category).sum ≤ 8 ∧ (zentl (.ref b :: (st.take q.2.2).reverse)).length ≤ zmaxL q.2.1 ∧ (q.1 = 4 ∨ q.1 = 5 ∨ zrcv h b = some (zown q.2.1)) then some (.ref b :: (st.take q.2.2).reverse, r) else none
    | _ => none
/-- calls that are one step: Object's constructor, Math.max, an enum constant's place -/
def zspec (d o pc : Nat) (L : zL) (st : List Value) (h : zH) (i : Jvm.ClassFile.Instr) : Option zF := match i with
  | .invokespecial idx => (match zml o idx with
    | some (6, _, _) => (match st with
      | .ref _ :: r => if 0 < d ∧ (r.map fun v => v.category).sum ≤ 8 then some (pc + 3, L, r, h) else none
      | _ => none)
    | _ => none)
  | .invokestatic idx => (match zml o idx with
    | some (7, _, _) => (match st with
      | .int y :: .int x :: r => if 0 < d ∧ (r.map fun v => v.category).sum ≤ 8 then some (pc + 3, L, .int (if x < y then y else x) :: r, h) else none
      | _ => none)
    | some (9, _, _) => (match st with
      | .int y :: .int x :: r => if 0 < d ∧ (r.map fun v => v.category).sum ≤ 8 then some (pc + 3, L, .int (if y < x then y else x) :: r, h) else none
      | _ => none)
    | _ => none)
  | .invokevirtual idx => (match zml o idx with
    | some (8, _, _) => (match st with
      | .ref b :: r => (match zcf zCF b 4 with
        | some (.int v) => if 0 < d ∧ (r.map fun v => v.category).sum ≤ 8 ∧ zko b = some 14 then some (pc + 3, L, .int v :: r, h) else none
        | _ => none)
      | _ => none)
    | _ => none)
  | _ => none
def zins (j pc : Nat) : Option Jvm.ClassFile.Instr := match decode (zcode j) pc with
  | .ok (i, len) => if zlen i = len ∨ zlen i = 0 then some i else none
  | .error _ => none
theorem zins_any {j pc : Nat} {i : Jvm.ClassFile.Instr} (h : zins j pc = some i) : ∃ len, decode (zcode j) pc = .ok (i, len) ∧ (zlen i = len ∨ zlen i = 0) := by
  unfold zins at h
  split at h
  · rename_i i' len hd
    split at h
    · rename_i hc
      cases h
      exact ⟨_, hd, hc⟩
    · cases h
  · cases h
theorem zins_dec {j pc : Nat} {i : Jvm.ClassFile.Instr} (h : zins j pc = some i) (hn : zlen i ≠ 0) : decode (zcode j) pc = .ok (i, zlen i) := by
  obtain ⟨len, h1, h2⟩ := zins_any h
  rcases h2 with h2 | h2
  · rw [h2]; exact h1
  · exact absurd h2 hn
def zrun (X : zX) (n d j pc : Nat) (L : zL) (st : List Value) (h : zH) : Option (Option Value × zH) := match n with
  | 0 => none
  | n + 1 => match zins j pc with
    | none => none
    | some i => match zret (zrt j) i st with
      | some v => some (v, h)
      | none => match zinv (zown j) i with
        | some q => (match zprep q st h with
          | some (As, rest) => (match d with
            | 0 => none
            | d + 1 => (match zrun X n d q.2.1 0 (zent (zmaxL q.2.1) As) [] h with
              | some (v, h1) => zrun X n (d + 1) j (pc + 3) L (v.toList ++ rest) h1
              | none => none))
          | none => none)
        | none => (match zspec d (zown j) pc L st h i with
          | some (pc', L', st', h') => zrun X n d j pc' L' st' h'
          | none => (match zstep X (zini j) (zown j) pc L st h i with
            | some (pc', L', st', h') => zrun X n d j pc' L' st' h'
            | none => none))
theorem zrun_mono {X : zX} : ∀ (n : Nat) {d j pc : Nat} {L : zL} {st : List Value} {h : zH} {r : Option Value × zH}, zrun X n d j pc L st h = some r → zrun X (n + 1) d j pc L st h = some r := by
  intro n
  induction n with
  | zero => intro d j pc L st h r hz; cases hz
  | succ n ih =>
    intro d j pc L st h r hz
    rw [zrun] at hz ⊢
    split at hz
    · cases hz
    · rename_i i hi
      try rw [hi]
      try dsimp only
      split at hz
      · rename_i v hv
        try rw [hv]
        exact hz
      · rename_i hv
        try rw [hv]
        try dsimp only
        split at hz
        · rename_i q hq
          try rw [hq]
          try dsimp only
          split at hz
          · rename_i As rest hp
            try rw [hp]
            try dsimp only
            split at hz
            · cases hz
            · rename_i d'
              split at hz
              · rename_i v h1 hc
                rw [ih hc]
                exact ih hz
              · cases hz
          · cases hz
        · rename_i hq
          try rw [hq]
          try dsimp only
          split at hz
          · rename_i pc' L' st' h' hs
            try rw [hs]
            exact ih hz
          · rename_i hs
            try rw [hs]
            try dsimp only
            split at hz
            · rename_i pc' L' st' h' hs2
              try rw [hs2]
              exact ih hz
            · cases hz
theorem zrun_le {X : zX} {r : Option Value × zH} {n m d j pc : Nat} {L : zL} {st : List Value} {h : zH} (hz : zrun X n d j pc L st h = some r) (hm : n ≤ m) : zrun X m d j pc L st h = some r := by
  induction hm with
  | refl => exact hz
  | step _ ih => exact zrun_mono _ ih
/-- the machine comes from here to an answer -/
def zR (X : zX) (d j pc : Nat) (L : zL) (st : List Value) (h : zH) (r : Option Value × zH) : Prop := ∃ n, zrun X n d j pc L st h = some r
theorem zR.step {X : zX} {d j pc : Nat} {L : zL} {st : List Value} {h : zH} {r : Option Value × zH} {i : Jvm.ClassFile.Instr} {F : zF} (hi : zins j pc = some i) (hr : zret (zrt j) i st = none) (hv : zinv (zown j) i = none) (hp : zspec d (zown j) pc L st h i = none) (hs : zstep X (zini j) (zown j) pc L st h i = some F) (k : zR X d j F.1 F.2.1 F.2.2.1 F.2.2.2 r) : zR X d j pc L st h r := by
  obtain ⟨n, hn⟩ := k
  refine ⟨n + 1, ?_⟩
  rw [zrun, hi]
  dsimp only
  rw [hr]
  dsimp only
  rw [hv]
  dsimp only
  rw [hp]
  dsimp only
  rw [hs]
  exact hn
theorem zR.spec {X : zX} {d j pc : Nat} {L : zL} {st : List Value} {h : zH} {r : Option Value × zH} {i : Jvm.ClassFile.Instr} {F : zF} (hi : zins j pc = some i) (hr : zret (zrt j) i st = none) (hv : zinv (zown j) i = none) (hp : zspec d (zown j) pc L st h i = some F) (k : zR X d j F.1 F.2.1 F.2.2.1 F.2.2.2 r) : zR X d j pc L st h r := by
  obtain ⟨n, hn⟩ := k
  refine ⟨n + 1, ?_⟩
  rw [zrun, hi]
  dsimp only
  rw [hr]
  dsimp only
  rw [hv]
  dsimp only
  rw [hp]
  exact hn
theorem zR.ret {X : zX} {d j pc : Nat} {L : zL} {st : List Value} {h : zH} {v : Option Value} {i : Jvm.ClassFile.Instr} (hi : zins j pc = some i) (hr : zret (zrt j) i st = some v) : zR X d j pc L st h (v, h) := by
  refine ⟨1, ?_⟩
  rw [zrun, hi]
  dsimp only
  rw [hr]
theorem zR.call {X : zX} {d j pc : Nat} {L : zL} {st As rest : List Value} {h h1 : zH} {v : Option Value} {q : Nat × Nat × Nat} {r : Option Value × zH} {i : Jvm.ClassFile.Instr} (hi : zins j pc = some i) (hr : zret (zrt j) i st = none) (hv : zinv (zown j) i = some q) (hp : zprep q st h = some (As, rest)) (hc : zR X d q.2.1 0 (zent (zmaxL q.2.1) As) [] h (v, h1)) (k : zR X (d + 1) j (pc + 3) L (v.toList ++ rest) h1 r) : zR X (d + 1) j pc L st h r := by
  obtain ⟨n, hn⟩ := hc
  obtain ⟨n', hn'⟩ := k
  refine ⟨n + n' + 1, ?_⟩
  rw [zrun, hi]
  dsimp only
  rw [hr]
  dsimp only
  rw [hv]
  dsimp only
  rw [hp]
  dsimp only
  rw [zrun_le hn (by omega)]
  exact zrun_le hn' (by omega)
end
section
/-! THE WORDS that every method's contract carries -/
def zcore : List Cond := lw_tbl.filter goodWord
def zws (j : Nat) : List Cond := Cond.code (zname j) (zcode j) (zmaxL j) (zrt j) :: zcore
def zat (p : Nat) (w : Cond) : Bool := decide (lw_tbl[p]? = some w) && goodWord w
theorem zat_ok {p : Nat} {w : Cond} (h : zat p w = true) : w ∈ zcore := by
  unfold zat at h
  simp only [Bool.and_eq_true, decide_eq_true_eq] at h
  exact List.mem_filter.mpr ⟨List.mem_of_getElem? h.1, h.2⟩
theorem zgood_all {w : Cond} (h : w ∈ zcore) : w ∈ zcore ∧ ((w.onTables && w.keeps) = true ∨ ∃ ty, w = .arrayClass ty) := ⟨h, good_of_word (List.mem_filter.mp h).2⟩
def zjk (j : Nat) : Bool := plainName (zname j).cls && decide ((zname j).cls = zRn (zown j)) && decide (zmaxL j ≤ 21) && decide ((zname j).cls ≠ "java/lang/invoke/MethodHandle" ∧ (zname j).cls ≠ "java/lang/invoke/VarHandle") && (!(zini j) || decide ((zname j).name = "<init>" ∧ zrt j = none))
theorem zjk_all : (List.range zNM).all zjk = true := by decide +kernel
def zjok (j : Nat) : Bool := decide (j < zNM)
theorem zjok_all {j : Nat} (h : zjok j = true) : zjk j = true := List.all_eq_true.mp zjk_all j (List.mem_range.mpr (of_decide_eq_true h))
theorem zjok_ok {j : Nat} (h : zjok j = true) : plainName (zname j).cls = true ∧ (zname j).cls = zRn (zown j) := by
  have h1 := zjok_all h
  unfold zjk at h1
  simp only [Bool.and_eq_true, decide_eq_true_eq] at h1
  exact ⟨h1.1.1.1.1, h1.1.1.1.2⟩
theorem zmaxL_le {j : Nat} (h : zjok j = true) : zmaxL j ≤ 21 := by
  have h1 := zjok_all h
  unfold zjk at h1
  simp only [Bool.and_eq_true, decide_eq_true_eq] at h1
  exact h1.1.1.2
theorem znotMH {j : Nat} (h : zjok j = true) : (zname j).cls ≠ "java/lang/invoke/MethodHandle" ∧ (zname j).cls ≠ "java/lang/invoke/VarHandle" := by
  have h1 := zjok_all h
  unfold zjk at h1
  simp only [Bool.and_eq_true, decide_eq_true_eq] at h1
  exact h1.1.2
theorem zini_lt {j : Nat} (h : zini j = true) : j < zNM := by
  rcases Nat.lt_or_ge j zNM with q | q
  · exact q
  · have e : zini j = false := by
      unfold zini
      rw [List.getD_eq_getElem?_getD, List.getElem?_eq_none (by exact q)]
      rfl
    rw [e] at h
    cases h
theorem zini_ok {j : Nat} (h : zini j = true) : (zname j).name = "<init>" := by
  have h1 := zjok_all (decide_eq_true (zini_lt h))
  unfold zjk at h1
  simp only [Bool.and_eq_true, h] at h1
  exact (of_decide_eq_true h1.2).1
theorem zini_rt {j : Nat} (h : zini j = true) : zrt j = none := by
  have h1 := zjok_all (decide_eq_true (zini_lt h))
  unfold zjk at h1
  simp only [Bool.and_eq_true, h] at h1
  exact (of_decide_eq_true h1.2).2
set_option maxRecDepth 20000 in
theorem zcp_0 : Cond.code (zname 0) (zcode 0) (zmaxL 0) (zrt 0) ∈ lw_tbl := List.mem_append_right _ (List.mem_append_left _ (List.mem_of_getElem? (i := 22) rfl))
set_option maxRecDepth 20000 in
theorem zcp_1 : Cond.code (zname 1) (zcode 1) (zmaxL 1) (zrt 1) ∈ lw_tbl := List.mem_append_right _ (List.mem_append_left _ (List.mem_of_getElem? (i := 180) rfl))
set_option maxRecDepth 20000 in
theorem zcp_2 : Cond.code (zname 2) (zcode 2) (zmaxL 2) (zrt 2) ∈ lw_tbl := List.mem_append_right _ (List.mem_append_left _ (List.mem_of_getElem? (i := 183) rfl))
set_option maxRecDepth 20000 in
theorem zcp_3 : Cond.code (zname 3) (zcode 3) (zmaxL 3) (zrt 3) ∈ lw_tbl := List.mem_append_right _ (List.mem_append_left _ (List.mem_of_getElem? (i := 186) rfl))
set_option maxRecDepth 20000 in
theorem zcp_4 : Cond.code (zname 4) (zcode 4) (zmaxL 4) (zrt 4) ∈ lw_tbl := List.mem_append_right _ (List.mem_append_left _ (List.mem_of_getElem? (i := 189) rfl))
set_option maxRecDepth 20000 in
theorem zcp_5 : Cond.code (zname 5) (zcode 5) (zmaxL 5) (zrt 5) ∈ lw_tbl := List.mem_append_right _ (List.mem_append_left _ (List.mem_of_getElem? (i := 201) rfl))
set_option maxRecDepth 20000 in
theorem zcp_6 : Cond.code (zname 6) (zcode 6) (zmaxL 6) (zrt 6) ∈ lw_tbl := List.mem_append_right _ (List.mem_append_right _ (List.mem_append_left _ (List.mem_of_getElem? (i := 47) rfl)))
set_option maxRecDepth 20000 in
theorem zcp_7 : Cond.code (zname 7) (zcode 7) (zmaxL 7) (zrt 7) ∈ lw_tbl := List.mem_append_right _ (List.mem_append_right _ (List.mem_append_left _ (List.mem_of_getElem? (i := 50) rfl)))
set_option maxRecDepth 20000 in
theorem zcp_8 : Cond.code (zname 8) (zcode 8) (zmaxL 8) (zrt 8) ∈ lw_tbl := List.mem_append_right _ (List.mem_append_right _ (List.mem_append_left _ (List.mem_of_getElem? (i := 53) rfl)))
set_option maxRecDepth 20000 in
theorem zcp_9 : Cond.code (zname 9) (zcode 9) (zmaxL 9) (zrt 9) ∈ lw_tbl := List.mem_append_right _ (List.mem_append_right _ (List.mem_append_left _ (List.mem_of_getElem? (i := 56) rfl)))
set_option maxRecDepth 20000 in
theorem zcp_10 : Cond.code (zname 10) (zcode 10) (zmaxL 10) (zrt 10) ∈ lw_tbl := List.mem_append_right _ (List.mem_append_right _ (List.mem_append_left _ (List.mem_of_getElem? (i := 172) rfl)))
set_option maxRecDepth 20000 in
theorem zcp_11 : Cond.code (zname 11) (zcode 11) (zmaxL 11) (zrt 11) ∈ lw_tbl := List.mem_append_right _ (List.mem_append_right _ (List.mem_append_right _ (List.mem_append_left _ (List.mem_of_getElem? (i := 79) rfl))))
set_option maxRecDepth 20000 in
theorem zcp_12 : Cond.code (zname 12) (zcode 12) (zmaxL 12) (zrt 12) ∈ lw_tbl := List.mem_append_right _ (List.mem_append_right _ (List.mem_append_right _ (List.mem_append_left _ (List.mem_of_getElem? (i := 109) rfl))))
set_option maxRecDepth 20000 in
theorem zcp_13 : Cond.code (zname 13) (zcode 13) (zmaxL 13) (zrt 13) ∈ lw_tbl := List.mem_append_right _ (List.mem_append_right _ (List.mem_append_right _ (List.mem_append_left _ (List.mem_of_getElem? (i := 113) rfl))))
set_option maxRecDepth 20000 in
theorem zcp_14 : Cond.code (zname 14) (zcode 14) (zmaxL 14) (zrt 14) ∈ lw_tbl := List.mem_append_right _ (List.mem_append_right _ (List.mem_append_right _ (List.mem_append_left _ (List.mem_of_getElem? (i := 129) rfl))))
set_option maxRecDepth 20000 in
theorem zcp_15 : Cond.code (zname 15) (zcode 15) (zmaxL 15) (zrt 15) ∈ lw_tbl := List.mem_append_right _ (List.mem_append_right _ (List.mem_append_right _ (List.mem_append_left _ (List.mem_of_getElem? (i := 134) rfl))))
set_option maxRecDepth 20000 in
theorem zcp_16 : Cond.code (zname 16) (zcode 16) (zmaxL 16) (zrt 16) ∈ lw_tbl := List.mem_append_right _ (List.mem_append_right _ (List.mem_append_right _ (List.mem_append_left _ (List.mem_of_getElem? (i := 147) rfl))))
set_option maxRecDepth 20000 in
theorem zcp_17 : Cond.code (zname 17) (zcode 17) (zmaxL 17) (zrt 17) ∈ lw_tbl := List.mem_append_right _ (List.mem_append_right _ (List.mem_append_right _ (List.mem_append_left _ (List.mem_of_getElem? (i := 151) rfl))))
set_option maxRecDepth 20000 in
theorem zcp_18 : Cond.code (zname 18) (zcode 18) (zmaxL 18) (zrt 18) ∈ lw_tbl := List.mem_append_right _ (List.mem_append_right _ (List.mem_append_right _ (List.mem_append_left _ (List.mem_of_getElem? (i := 155) rfl))))
set_option maxRecDepth 20000 in
theorem zcp_19 : Cond.code (zname 19) (zcode 19) (zmaxL 19) (zrt 19) ∈ lw_tbl := List.mem_append_right _ (List.mem_append_right _ (List.mem_append_right _ (List.mem_append_left _ (List.mem_of_getElem? (i := 159) rfl))))
set_option maxRecDepth 20000 in
theorem zcp_20 : Cond.code (zname 20) (zcode 20) (zmaxL 20) (zrt 20) ∈ lw_tbl := List.mem_append_right _ (List.mem_append_right _ (List.mem_append_right _ (List.mem_append_left _ (List.mem_of_getElem? (i := 164) rfl))))
set_option maxRecDepth 20000 in
theorem zcp_21 : Cond.code (zname 21) (zcode 21) (zmaxL 21) (zrt 21) ∈ lw_tbl := List.mem_append_right _ (List.mem_append_right _ (List.mem_append_right _ (List.mem_append_left _ (List.mem_of_getElem? (i := 169) rfl))))
set_option maxRecDepth 20000 in
theorem zcp_22 : Cond.code (zname 22) (zcode 22) (zmaxL 22) (zrt 22) ∈ lw_tbl := List.mem_append_right _ (List.mem_append_right _ (List.mem_append_right _ (List.mem_append_left _ (List.mem_of_getElem? (i := 174) rfl))))
set_option maxRecDepth 20000 in
theorem zcp_23 : Cond.code (zname 23) (zcode 23) (zmaxL 23) (zrt 23) ∈ lw_tbl := List.mem_append_right _ (List.mem_append_right _ (List.mem_append_right _ (List.mem_append_left _ (List.mem_of_getElem? (i := 182) rfl))))
set_option maxRecDepth 20000 in
theorem zcp_24 : Cond.code (zname 24) (zcode 24) (zmaxL 24) (zrt 24) ∈ lw_tbl := List.mem_append_right _ (List.mem_append_right _ (List.mem_append_right _ (List.mem_append_left _ (List.mem_of_getElem? (i := 186) rfl))))
set_option maxRecDepth 20000 in
theorem zcp_25 : Cond.code (zname 25) (zcode 25) (zmaxL 25) (zrt 25) ∈ lw_tbl := List.mem_append_right _ (List.mem_append_right _ (List.mem_append_right _ (List.mem_append_left _ (List.mem_of_getElem? (i := 190) rfl))))
set_option maxRecDepth 20000 in
theorem zcp_26 : Cond.code (zname 26) (zcode 26) (zmaxL 26) (zrt 26) ∈ lw_tbl := List.mem_append_right _ (List.mem_append_right _ (List.mem_append_right _ (List.mem_append_left _ (List.mem_of_getElem? (i := 199) rfl))))
set_option maxRecDepth 20000 in
theorem zcp_27 : Cond.code (zname 27) (zcode 27) (zmaxL 27) (zrt 27) ∈ lw_tbl := List.mem_append_right _ (List.mem_append_right _ (List.mem_append_right _ (List.mem_append_left _ (List.mem_of_getElem? (i := 203) rfl))))
set_option maxRecDepth 20000 in
theorem zcp_28 : Cond.code (zname 28) (zcode 28) (zmaxL 28) (zrt 28) ∈ lw_tbl := List.mem_append_right _ (List.mem_append_right _ (List.mem_append_right _ (List.mem_append_left _ (List.mem_of_getElem? (i := 207) rfl))))
set_option maxRecDepth 20000 in
theorem zcp_29 : Cond.code (zname 29) (zcode 29) (zmaxL 29) (zrt 29) ∈ lw_tbl := List.mem_append_right _ (List.mem_append_right _ (List.mem_append_right _ (List.mem_append_left _ (List.mem_of_getElem? (i := 212) rfl))))
set_option maxRecDepth 20000 in
theorem zcp_30 : Cond.code (zname 30) (zcode 30) (zmaxL 30) (zrt 30) ∈ lw_tbl := List.mem_append_right _ (List.mem_append_right _ (List.mem_append_right _ (List.mem_append_left _ (List.mem_of_getElem? (i := 232) rfl))))
set_option maxRecDepth 20000 in
theorem zcp_31 : Cond.code (zname 31) (zcode 31) (zmaxL 31) (zrt 31) ∈ lw_tbl := List.mem_append_right _ (List.mem_append_left _ (List.mem_of_getElem? (i := 36) rfl))
set_option maxRecDepth 20000 in
theorem zcp_32 : Cond.code (zname 32) (zcode 32) (zmaxL 32) (zrt 32) ∈ lw_tbl := List.mem_append_right _ (List.mem_append_left _ (List.mem_of_getElem? (i := 193) rfl))
set_option maxRecDepth 20000 in
theorem zcp_33 : Cond.code (zname 33) (zcode 33) (zmaxL 33) (zrt 33) ∈ lw_tbl := List.mem_append_right _ (List.mem_append_left _ (List.mem_of_getElem? (i := 197) rfl))
set_option maxRecDepth 20000 in
theorem zcp_34 : Cond.code (zname 34) (zcode 34) (zmaxL 34) (zrt 34) ∈ lw_tbl := List.mem_append_right _ (List.mem_append_left _ (List.mem_of_getElem? (i := 205) rfl))
set_option maxRecDepth 20000 in
theorem zcp_35 : Cond.code (zname 35) (zcode 35) (zmaxL 35) (zrt 35) ∈ lw_tbl := List.mem_append_right _ (List.mem_append_left _ (List.mem_of_getElem? (i := 218) rfl))
set_option maxRecDepth 20000 in
theorem zcp_36 : Cond.code (zname 36) (zcode 36) (zmaxL 36) (zrt 36) ∈ lw_tbl := List.mem_append_right _ (List.mem_append_left _ (List.mem_of_getElem? (i := 232) rfl))
set_option maxRecDepth 20000 in
theorem zcp_37 : Cond.code (zname 37) (zcode 37) (zmaxL 37) (zrt 37) ∈ lw_tbl := List.mem_append_right _ (List.mem_append_right _ (List.mem_append_right _ (List.mem_append_left _ (List.mem_of_getElem? (i := 118) rfl))))
set_option maxRecDepth 20000 in
theorem zcp_38 : Cond.code (zname 38) (zcode 38) (zmaxL 38) (zrt 38) ∈ lw_tbl := List.mem_append_right _ (List.mem_append_left _ (List.mem_of_getElem? (i := 30) rfl))
set_option maxRecDepth 20000 in
theorem zcp_39 : Cond.code (zname 39) (zcode 39) (zmaxL 39) (zrt 39) ∈ lw_tbl := List.mem_append_right _ (List.mem_append_left _ (List.mem_of_getElem? (i := 209) rfl))
set_option maxRecDepth 20000 in
theorem zcp_40 : Cond.code (zname 40) (zcode 40) (zmaxL 40) (zrt 40) ∈ lw_tbl := List.mem_append_right _ (List.mem_append_right _ (List.mem_append_left _ (List.mem_of_getElem? (i := 60) rfl)))
set_option maxRecDepth 20000 in
theorem zcp_41 : Cond.code (zname 41) (zcode 41) (zmaxL 41) (zrt 41) ∈ lw_tbl := List.mem_append_right _ (List.mem_append_right _ (List.mem_append_left _ (List.mem_of_getElem? (i := 64) rfl)))
set_option maxRecDepth 20000 in
theorem zcp_42 : Cond.code (zname 42) (zcode 42) (zmaxL 42) (zrt 42) ∈ lw_tbl := List.mem_append_right _ (List.mem_append_right _ (List.mem_append_left _ (List.mem_of_getElem? (i := 68) rfl)))
set_option maxRecDepth 20000 in
theorem zcp_43 : Cond.code (zname 43) (zcode 43) (zmaxL 43) (zrt 43) ∈ lw_tbl := List.mem_append_right _ (List.mem_append_right _ (List.mem_append_left _ (List.mem_of_getElem? (i := 83) rfl)))
set_option maxRecDepth 20000 in
theorem zcp_44 : Cond.code (zname 44) (zcode 44) (zmaxL 44) (zrt 44) ∈ lw_tbl := List.mem_append_right _ (List.mem_append_right _ (List.mem_append_left _ (List.mem_of_getElem? (i := 92) rfl)))
set_option maxRecDepth 20000 in
theorem zcp_45 : Cond.code (zname 45) (zcode 45) (zmaxL 45) (zrt 45) ∈ lw_tbl := List.mem_append_right _ (List.mem_append_left _ (List.mem_of_getElem? (i := 57) rfl))
set_option maxRecDepth 20000 in
theorem zcp_46 : Cond.code (zname 46) (zcode 46) (zmaxL 46) (zrt 46) ∈ lw_tbl := List.mem_append_right _ (List.mem_append_right _ (List.mem_append_left _ (List.mem_of_getElem? (i := 181) rfl)))
set_option maxRecDepth 20000 in
theorem zcp_47 : Cond.code (zname 47) (zcode 47) (zmaxL 47) (zrt 47) ∈ lw_tbl := List.mem_append_right _ (List.mem_append_right _ (List.mem_append_left _ (List.mem_of_getElem? (i := 202) rfl)))
set_option maxRecDepth 20000 in
theorem zcp_48 : Cond.code (zname 48) (zcode 48) (zmaxL 48) (zrt 48) ∈ lw_tbl := List.mem_append_right _ (List.mem_append_right _ (List.mem_append_left _ (List.mem_of_getElem? (i := 216) rfl)))
set_option maxRecDepth 20000 in
theorem zcp_49 : Cond.code (zname 49) (zcode 49) (zmaxL 49) (zrt 49) ∈ lw_tbl := List.mem_append_right _ (List.mem_append_right _ (List.mem_append_left _ (List.mem_of_getElem? (i := 230) rfl)))
set_option maxRecDepth 20000 in
theorem zcp_50 : Cond.code (zname 50) (zcode 50) (zmaxL 50) (zrt 50) ∈ lw_tbl := List.mem_append_right _ (List.mem_append_right _ (List.mem_append_left _ (List.mem_of_getElem? (i := 234) rfl)))
set_option maxRecDepth 20000 in
theorem zcp_51 : Cond.code (zname 51) (zcode 51) (zmaxL 51) (zrt 51) ∈ lw_tbl := List.mem_append_right _ (List.mem_append_right _ (List.mem_append_left _ (List.mem_of_getElem? (i := 238) rfl)))
set_option maxRecDepth 20000 in
theorem zcp_52 : Cond.code (zname 52) (zcode 52) (zmaxL 52) (zrt 52) ∈ lw_tbl := List.mem_append_right _ (List.mem_append_right _ (List.mem_append_right _ (List.mem_append_left _ (List.mem_of_getElem? (i := 33) rfl))))
set_option maxRecDepth 20000 in
theorem zcp_53 : Cond.code (zname 53) (zcode 53) (zmaxL 53) (zrt 53) ∈ lw_tbl := List.mem_append_right _ (List.mem_append_right _ (List.mem_append_right _ (List.mem_append_left _ (List.mem_of_getElem? (i := 36) rfl))))
set_option maxRecDepth 20000 in
theorem zcp_54 : Cond.code (zname 54) (zcode 54) (zmaxL 54) (zrt 54) ∈ lw_tbl := List.mem_append_right _ (List.mem_append_right _ (List.mem_append_right _ (List.mem_append_left _ (List.mem_of_getElem? (i := 39) rfl))))
set_option maxRecDepth 20000 in
theorem zcp_55 : Cond.code (zname 55) (zcode 55) (zmaxL 55) (zrt 55) ∈ lw_tbl := List.mem_append_right _ (List.mem_append_right _ (List.mem_append_right _ (List.mem_append_left _ (List.mem_of_getElem? (i := 51) rfl))))
set_option maxRecDepth 20000 in
theorem zcp_56 : Cond.code (zname 56) (zcode 56) (zmaxL 56) (zrt 56) ∈ lw_tbl := List.mem_append_right _ (List.mem_append_right _ (List.mem_append_right _ (List.mem_append_left _ (List.mem_of_getElem? (i := 55) rfl))))
set_option maxRecDepth 20000 in
theorem zcp_57 : Cond.code (zname 57) (zcode 57) (zmaxL 57) (zrt 57) ∈ lw_tbl := List.mem_append_right _ (List.mem_append_right _ (List.mem_append_right _ (List.mem_append_left _ (List.mem_of_getElem? (i := 59) rfl))))
set_option maxRecDepth 20000 in
theorem zcp_58 : Cond.code (zname 58) (zcode 58) (zmaxL 58) (zrt 58) ∈ lw_tbl := List.mem_append_right _ (List.mem_append_right _ (List.mem_append_right _ (List.mem_append_left _ (List.mem_of_getElem? (i := 63) rfl))))
set_option maxRecDepth 20000 in
theorem zcp_59 : Cond.code (zname 59) (zcode 59) (zmaxL 59) (zrt 59) ∈ lw_tbl := List.mem_append_right _ (List.mem_append_right _ (List.mem_append_right _ (List.mem_append_left _ (List.mem_of_getElem? (i := 67) rfl))))
set_option maxRecDepth 20000 in
theorem zcp_60 : Cond.code (zname 60) (zcode 60) (zmaxL 60) (zrt 60) ∈ lw_tbl := List.mem_append_right _ (List.mem_append_right _ (List.mem_append_right _ (List.mem_append_left _ (List.mem_of_getElem? (i := 82) rfl))))
set_option maxRecDepth 20000 in
theorem zcp_61 : Cond.code (zname 61) (zcode 61) (zmaxL 61) (zrt 61) ∈ lw_tbl := List.mem_append_right _ (List.mem_append_right _ (List.mem_append_right _ (List.mem_append_left _ (List.mem_of_getElem? (i := 90) rfl))))
set_option maxRecDepth 20000 in
theorem zcp_62 : Cond.code (zname 62) (zcode 62) (zmaxL 62) (zrt 62) ∈ lw_tbl := List.mem_append_right _ (List.mem_append_right _ (List.mem_append_right _ (List.mem_append_left _ (List.mem_of_getElem? (i := 178) rfl))))
set_option maxRecDepth 20000 in
theorem zcp_63 : Cond.code (zname 63) (zcode 63) (zmaxL 63) (zrt 63) ∈ lw_tbl := List.mem_append_right _ (List.mem_append_left _ (List.mem_of_getElem? (i := 93) rfl))
set_option maxRecDepth 20000 in
theorem zcp_64 : Cond.code (zname 64) (zcode 64) (zmaxL 64) (zrt 64) ∈ lw_tbl := List.mem_append_right _ (List.mem_append_right _ (List.mem_append_left _ (List.mem_of_getElem? (i := 177) rfl)))
set_option maxRecDepth 20000 in
theorem zcp_65 : Cond.code (zname 65) (zcode 65) (zmaxL 65) (zrt 65) ∈ lw_tbl := List.mem_append_right _ (List.mem_append_right _ (List.mem_append_right _ (List.mem_append_left _ (List.mem_of_getElem? (i := 106) rfl))))
set_option maxRecDepth 20000 in
theorem zcp_66 : Cond.code (zname 66) (zcode 66) (zmaxL 66) (zrt 66) ∈ lw_tbl := List.mem_append_right _ (List.mem_append_left _ (List.mem_of_getElem? (i := 110) rfl))
set_option maxRecDepth 20000 in
theorem zcp_67 : Cond.code (zname 67) (zcode 67) (zmaxL 67) (zrt 67) ∈ lw_tbl := List.mem_append_right _ (List.mem_append_right _ (List.mem_append_left _ (List.mem_of_getElem? (i := 35) rfl)))
set_option maxRecDepth 20000 in
theorem zcp_68 : Cond.code (zname 68) (zcode 68) (zmaxL 68) (zrt 68) ∈ lw_tbl := List.mem_append_right _ (List.mem_append_right _ (List.mem_append_left _ (List.mem_of_getElem? (i := 39) rfl)))
set_option maxRecDepth 20000 in
theorem zcp_69 : Cond.code (zname 69) (zcode 69) (zmaxL 69) (zrt 69) ∈ lw_tbl := List.mem_append_right _ (List.mem_append_right _ (List.mem_append_left _ (List.mem_of_getElem? (i := 43) rfl)))
set_option maxRecDepth 20000 in
theorem zcp_70 : Cond.code (zname 70) (zcode 70) (zmaxL 70) (zrt 70) ∈ lw_tbl := List.mem_append_right _ (List.mem_append_right _ (List.mem_append_left _ (List.mem_of_getElem? (i := 87) rfl)))
set_option maxRecDepth 20000 in
theorem zcp_71 : Cond.code (zname 71) (zcode 71) (zmaxL 71) (zrt 71) ∈ lw_tbl := List.mem_append_right _ (List.mem_append_right _ (List.mem_append_right _ (List.mem_append_left _ (List.mem_of_getElem? (i := 123) rfl))))
set_option maxRecDepth 20000 in
theorem zcp_72 : Cond.code (zname 72) (zcode 72) (zmaxL 72) (zrt 72) ∈ lw_tbl := List.mem_append_right _ (List.mem_append_right _ (List.mem_append_right _ (List.mem_append_left _ (List.mem_of_getElem? (i := 225) rfl))))
set_option maxRecDepth 20000 in
theorem zcp_73 : Cond.code (zname 73) (zcode 73) (zmaxL 73) (zrt 73) ∈ lw_tbl := List.mem_append_right _ (List.mem_append_left _ (List.mem_of_getElem? (i := 122) rfl))
set_option maxRecDepth 20000 in
theorem zcp_74 : Cond.code (zname 74) (zcode 74) (zmaxL 74) (zrt 74) ∈ lw_tbl := List.mem_append_right _ (List.mem_append_left _ (List.mem_of_getElem? (i := 213) rfl))
set_option maxRecDepth 20000 in
theorem zcp_75 : Cond.code (zname 75) (zcode 75) (zmaxL 75) (zrt 75) ∈ lw_tbl := List.mem_append_right _ (List.mem_append_right _ (List.mem_append_left _ (List.mem_of_getElem? (i := 74) rfl)))
set_option maxRecDepth 20000 in
theorem zcp_76 : Cond.code (zname 76) (zcode 76) (zmaxL 76) (zrt 76) ∈ lw_tbl := List.mem_append_right _ (List.mem_append_right _ (List.mem_append_left _ (List.mem_of_getElem? (i := 78) rfl)))
set_option maxRecDepth 20000 in
theorem zcp_77 : Cond.code (zname 77) (zcode 77) (zmaxL 77) (zrt 77) ∈ lw_tbl := List.mem_append_right _ (List.mem_append_right _ (List.mem_append_left _ (List.mem_of_getElem? (i := 158) rfl)))
set_option maxRecDepth 20000 in
theorem zcp_78 : Cond.code (zname 78) (zcode 78) (zmaxL 78) (zrt 78) ∈ lw_tbl := List.mem_append_right _ (List.mem_append_right _ (List.mem_append_left _ (List.mem_of_getElem? (i := 162) rfl)))
set_option maxRecDepth 20000 in
theorem zcp_79 : Cond.code (zname 79) (zcode 79) (zmaxL 79) (zrt 79) ∈ lw_tbl := List.mem_append_right _ (List.mem_append_right _ (List.mem_append_left _ (List.mem_of_getElem? (i := 166) rfl)))
set_option maxRecDepth 20000 in
theorem zcp_80 : Cond.code (zname 80) (zcode 80) (zmaxL 80) (zrt 80) ∈ lw_tbl := List.mem_append_right _ (List.mem_append_right _ (List.mem_append_left _ (List.mem_of_getElem? (i := 185) rfl)))
set_option maxRecDepth 20000 in
theorem zcp_81 : Cond.code (zname 81) (zcode 81) (zmaxL 81) (zrt 81) ∈ lw_tbl := List.mem_append_right _ (List.mem_append_right _ (List.mem_append_left _ (List.mem_of_getElem? (i := 191) rfl)))
set_option maxRecDepth 20000 in
theorem zcp_82 : Cond.code (zname 82) (zcode 82) (zmaxL 82) (zrt 82) ∈ lw_tbl := List.mem_append_right _ (List.mem_append_right _ (List.mem_append_left _ (List.mem_of_getElem? (i := 198) rfl)))
set_option maxRecDepth 20000 in
theorem zcp_83 : Cond.code (zname 83) (zcode 83) (zmaxL 83) (zrt 83) ∈ lw_tbl := List.mem_append_right _ (List.mem_append_right _ (List.mem_append_left _ (List.mem_of_getElem? (i := 207) rfl)))
set_option maxRecDepth 20000 in
theorem zcp_84 : Cond.code (zname 84) (zcode 84) (zmaxL 84) (zrt 84) ∈ lw_tbl := List.mem_append_right _ (List.mem_append_right _ (List.mem_append_left _ (List.mem_of_getElem? (i := 213) rfl)))
set_option maxRecDepth 20000 in
theorem zcp_85 : Cond.code (zname 85) (zcode 85) (zmaxL 85) (zrt 85) ∈ lw_tbl := List.mem_append_right _ (List.mem_append_right _ (List.mem_append_right _ (List.mem_append_left _ (List.mem_of_getElem? (i := 46) rfl))))
set_option maxRecDepth 20000 in
theorem zcp_86 : Cond.code (zname 86) (zcode 86) (zmaxL 86) (zrt 86) ∈ lw_tbl := List.mem_append_right _ (List.mem_append_right _ (List.mem_append_right _ (List.mem_append_left _ (List.mem_of_getElem? (i := 76) rfl))))
set_option maxRecDepth 20000 in
theorem zcp_87 : Cond.code (zname 87) (zcode 87) (zmaxL 87) (zrt 87) ∈ lw_tbl := List.mem_append_right _ (List.mem_append_right _ (List.mem_append_right _ (List.mem_append_left _ (List.mem_of_getElem? (i := 86) rfl))))
set_option maxRecDepth 20000 in
theorem zcp_88 : Cond.code (zname 88) (zcode 88) (zmaxL 88) (zrt 88) ∈ lw_tbl := List.mem_append_right _ (List.mem_append_right _ (List.mem_append_right _ (List.mem_append_left _ (List.mem_of_getElem? (i := 218) rfl))))
set_option maxRecDepth 20000 in
theorem zcp_89 : Cond.code (zname 89) (zcode 89) (zmaxL 89) (zrt 89) ∈ lw_tbl := List.mem_append_right _ (List.mem_append_left _ (List.mem_of_getElem? (i := 65) rfl))
set_option maxRecDepth 20000 in
theorem zcp_90 : Cond.code (zname 90) (zcode 90) (zmaxL 90) (zrt 90) ∈ lw_tbl := List.mem_append_right _ (List.mem_append_right _ (List.mem_append_right _ (List.mem_append_left _ (List.mem_of_getElem? (i := 71) rfl))))
set_option maxRecDepth 20000 in
theorem zcp_91 : Cond.code (zname 91) (zcode 91) (zmaxL 91) (zrt 91) ∈ lw_tbl := List.mem_append_right _ (List.mem_append_right _ (List.mem_append_right _ (List.mem_append_left _ (List.mem_of_getElem? (i := 94) rfl))))
set_option maxRecDepth 20000 in
theorem zcp_92 : Cond.code (zname 92) (zcode 92) (zmaxL 92) (zrt 92) ∈ lw_tbl := List.mem_append_right _ (List.mem_append_right _ (List.mem_append_right _ (List.mem_append_left _ (List.mem_of_getElem? (i := 98) rfl))))
set_option maxRecDepth 20000 in
theorem zcp_93 : Cond.code (zname 93) (zcode 93) (zmaxL 93) (zrt 93) ∈ lw_tbl := List.mem_append_right _ (List.mem_append_right _ (List.mem_append_right _ (List.mem_append_left _ (List.mem_of_getElem? (i := 102) rfl))))
set_option maxRecDepth 20000 in
theorem zcp_94 : Cond.code (zname 94) (zcode 94) (zmaxL 94) (zrt 94) ∈ lw_tbl := List.mem_append_right _ (List.mem_append_right _ (List.mem_append_right _ (List.mem_append_left _ (List.mem_of_getElem? (i := 195) rfl))))
set_option maxRecDepth 20000 in
theorem zcp_95 : Cond.code (zname 95) (zcode 95) (zmaxL 95) (zrt 95) ∈ lw_tbl := List.mem_append_right _ (List.mem_append_right _ (List.mem_append_right _ (List.mem_append_left _ (List.mem_of_getElem? (i := 2) rfl))))
set_option maxRecDepth 20000 in
theorem zcp_96 : Cond.code (zname 96) (zcode 96) (zmaxL 96) (zrt 96) ∈ lw_tbl := List.mem_append_right _ (List.mem_append_right _ (List.mem_append_right _ (List.mem_append_left _ (List.mem_of_getElem? (i := 237) rfl))))
set_option maxRecDepth 20000 in
theorem zcp_97 : Cond.code (zname 97) (zcode 97) (zmaxL 97) (zrt 97) ∈ lw_tbl := List.mem_append_right _ (List.mem_append_right _ (List.mem_append_right _ (List.mem_append_right _ (List.mem_append_left _ (List.mem_of_getElem? (i := 106) rfl)))))
set_option maxRecDepth 20000 in
theorem zcp_98 : Cond.code (zname 98) (zcode 98) (zmaxL 98) (zrt 98) ∈ lw_tbl := List.mem_append_right _ (List.mem_append_right _ (List.mem_append_right _ (List.mem_append_right _ (List.mem_append_left _ (List.mem_of_getElem? (i := 114) rfl)))))
set_option maxRecDepth 20000 in
theorem zcp_99 : Cond.code (zname 99) (zcode 99) (zmaxL 99) (zrt 99) ∈ lw_tbl := List.mem_append_right _ (List.mem_append_right _ (List.mem_append_right _ (List.mem_append_right _ (List.mem_append_left _ (List.mem_of_getElem? (i := 118) rfl)))))
set_option maxRecDepth 20000 in
theorem zcp_100 : Cond.code (zname 100) (zcode 100) (zmaxL 100) (zrt 100) ∈ lw_tbl := List.mem_append_right _ (List.mem_append_right _ (List.mem_append_right _ (List.mem_append_right _ (List.mem_append_left _ (List.mem_of_getElem? (i := 122) rfl)))))
set_option maxRecDepth 20000 in
theorem zcp_101 : Cond.code (zname 101) (zcode 101) (zmaxL 101) (zrt 101) ∈ lw_tbl := List.mem_append_right _ (List.mem_append_right _ (List.mem_append_right _ (List.mem_append_right _ (List.mem_append_left _ (List.mem_of_getElem? (i := 126) rfl)))))
set_option maxRecDepth 20000 in
theorem zcp_102 : Cond.code (zname 102) (zcode 102) (zmaxL 102) (zrt 102) ∈ lw_tbl := List.mem_append_right _ (List.mem_append_right _ (List.mem_append_right _ (List.mem_append_right _ (List.mem_append_left _ (List.mem_of_getElem? (i := 130) rfl)))))
set_option maxRecDepth 20000 in
theorem zcp_103 : Cond.code (zname 103) (zcode 103) (zmaxL 103) (zrt 103) ∈ lw_tbl := List.mem_append_right _ (List.mem_append_right _ (List.mem_append_right _ (List.mem_append_right _ (List.mem_append_left _ (List.mem_of_getElem? (i := 133) rfl)))))
set_option maxRecDepth 20000 in
theorem zcp_104 : Cond.code (zname 104) (zcode 104) (zmaxL 104) (zrt 104) ∈ lw_tbl := List.mem_append_right _ (List.mem_append_right _ (List.mem_append_right _ (List.mem_append_right _ (List.mem_append_left _ (List.mem_of_getElem? (i := 136) rfl)))))
set_option maxRecDepth 20000 in
theorem zcp_105 : Cond.code (zname 105) (zcode 105) (zmaxL 105) (zrt 105) ∈ lw_tbl := List.mem_append_right _ (List.mem_append_right _ (List.mem_append_right _ (List.mem_append_right _ (List.mem_append_left _ (List.mem_of_getElem? (i := 139) rfl)))))
set_option maxRecDepth 20000 in
theorem zcp_106 : Cond.code (zname 106) (zcode 106) (zmaxL 106) (zrt 106) ∈ lw_tbl := List.mem_append_right _ (List.mem_append_right _ (List.mem_append_right _ (List.mem_append_right _ (List.mem_append_left _ (List.mem_of_getElem? (i := 142) rfl)))))
set_option maxRecDepth 20000 in
theorem zcp_107 : Cond.code (zname 107) (zcode 107) (zmaxL 107) (zrt 107) ∈ lw_tbl := List.mem_append_right _ (List.mem_append_right _ (List.mem_append_right _ (List.mem_append_right _ (List.mem_append_left _ (List.mem_of_getElem? (i := 146) rfl)))))
set_option maxRecDepth 20000 in
theorem zcp_108 : Cond.code (zname 108) (zcode 108) (zmaxL 108) (zrt 108) ∈ lw_tbl := List.mem_append_right _ (List.mem_append_right _ (List.mem_append_right _ (List.mem_append_right _ (List.mem_append_left _ (List.mem_of_getElem? (i := 150) rfl)))))
set_option maxRecDepth 20000 in
theorem zcp_109 : Cond.code (zname 109) (zcode 109) (zmaxL 109) (zrt 109) ∈ lw_tbl := List.mem_append_right _ (List.mem_append_right _ (List.mem_append_right _ (List.mem_append_right _ (List.mem_append_left _ (List.mem_of_getElem? (i := 154) rfl)))))
set_option maxRecDepth 20000 in
theorem zcp_110 : Cond.code (zname 110) (zcode 110) (zmaxL 110) (zrt 110) ∈ lw_tbl := List.mem_append_right _ (List.mem_append_right _ (List.mem_append_right _ (List.mem_append_right _ (List.mem_append_left _ (List.mem_of_getElem? (i := 158) rfl)))))
set_option maxRecDepth 20000 in
theorem zcp_111 : Cond.code (zname 111) (zcode 111) (zmaxL 111) (zrt 111) ∈ lw_tbl := List.mem_append_right _ (List.mem_append_right _ (List.mem_append_right _ (List.mem_append_right _ (List.mem_append_left _ (List.mem_of_getElem? (i := 162) rfl)))))
set_option maxRecDepth 20000 in
theorem zcp_112 : Cond.code (zname 112) (zcode 112) (zmaxL 112) (zrt 112) ∈ lw_tbl := List.mem_append_right _ (List.mem_append_right _ (List.mem_append_right _ (List.mem_append_right _ (List.mem_append_left _ (List.mem_of_getElem? (i := 165) rfl)))))
set_option maxRecDepth 20000 in
theorem zcp_113 : Cond.code (zname 113) (zcode 113) (zmaxL 113) (zrt 113) ∈ lw_tbl := List.mem_append_right _ (List.mem_append_right _ (List.mem_append_right _ (List.mem_append_right _ (List.mem_append_left _ (List.mem_of_getElem? (i := 169) rfl)))))
set_option maxRecDepth 20000 in
theorem zcp_114 : Cond.code (zname 114) (zcode 114) (zmaxL 114) (zrt 114) ∈ lw_tbl := List.mem_append_right _ (List.mem_append_right _ (List.mem_append_right _ (List.mem_append_right _ (List.mem_append_left _ (List.mem_of_getElem? (i := 173) rfl)))))
set_option maxRecDepth 20000 in
theorem zcp_115 : Cond.code (zname 115) (zcode 115) (zmaxL 115) (zrt 115) ∈ lw_tbl := List.mem_append_right _ (List.mem_append_right _ (List.mem_append_right _ (List.mem_append_right _ (List.mem_append_left _ (List.mem_of_getElem? (i := 177) rfl)))))
set_option maxRecDepth 20000 in
theorem zcp_116 : Cond.code (zname 116) (zcode 116) (zmaxL 116) (zrt 116) ∈ lw_tbl := List.mem_append_right _ (List.mem_append_right _ (List.mem_append_right _ (List.mem_append_right _ (List.mem_append_left _ (List.mem_of_getElem? (i := 181) rfl)))))
set_option maxRecDepth 20000 in
theorem zcp_117 : Cond.code (zname 117) (zcode 117) (zmaxL 117) (zrt 117) ∈ lw_tbl := List.mem_append_right _ (List.mem_append_right _ (List.mem_append_right _ (List.mem_append_right _ (List.mem_append_left _ (List.mem_of_getElem? (i := 185) rfl)))))
set_option maxRecDepth 20000 in
theorem zcp_118 : Cond.code (zname 118) (zcode 118) (zmaxL 118) (zrt 118) ∈ lw_tbl := List.mem_append_right _ (List.mem_append_right _ (List.mem_append_right _ (List.mem_append_right _ (List.mem_append_left _ (List.mem_of_getElem? (i := 189) rfl)))))
set_option maxRecDepth 20000 in
theorem zcp_119 : Cond.code (zname 119) (zcode 119) (zmaxL 119) (zrt 119) ∈ lw_tbl := List.mem_append_right _ (List.mem_append_right _ (List.mem_append_right _ (List.mem_append_right _ (List.mem_append_left _ (List.mem_of_getElem? (i := 193) rfl)))))
set_option maxRecDepth 20000 in
theorem zcp_120 : Cond.code (zname 120) (zcode 120) (zmaxL 120) (zrt 120) ∈ lw_tbl := List.mem_append_right _ (List.mem_append_right _ (List.mem_append_right _ (List.mem_append_right _ (List.mem_append_left _ (List.mem_of_getElem? (i := 197) rfl)))))
set_option maxRecDepth 20000 in
theorem zcp_121 : Cond.code (zname 121) (zcode 121) (zmaxL 121) (zrt 121) ∈ lw_tbl := List.mem_append_right _ (List.mem_append_right _ (List.mem_append_right _ (List.mem_append_right _ (List.mem_append_left _ (List.mem_of_getElem? (i := 201) rfl)))))
set_option maxRecDepth 20000 in
theorem zcp_122 : Cond.code (zname 122) (zcode 122) (zmaxL 122) (zrt 122) ∈ lw_tbl := List.mem_append_right _ (List.mem_append_right _ (List.mem_append_right _ (List.mem_append_right _ (List.mem_append_left _ (List.mem_of_getElem? (i := 205) rfl)))))
set_option maxRecDepth 20000 in
theorem zcp_123 : Cond.code (zname 123) (zcode 123) (zmaxL 123) (zrt 123) ∈ lw_tbl := List.mem_append_right _ (List.mem_append_right _ (List.mem_append_right _ (List.mem_append_right _ (List.mem_append_left _ (List.mem_of_getElem? (i := 209) rfl)))))
set_option maxRecDepth 20000 in
theorem zcp_124 : Cond.code (zname 124) (zcode 124) (zmaxL 124) (zrt 124) ∈ lw_tbl := List.mem_append_right _ (List.mem_append_right _ (List.mem_append_right _ (List.mem_append_right _ (List.mem_append_left _ (List.mem_of_getElem? (i := 213) rfl)))))
set_option maxRecDepth 20000 in
theorem zcp_125 : Cond.code (zname 125) (zcode 125) (zmaxL 125) (zrt 125) ∈ lw_tbl := List.mem_append_right _ (List.mem_append_right _ (List.mem_append_right _ (List.mem_append_right _ (List.mem_append_left _ (List.mem_of_getElem? (i := 217) rfl)))))
set_option maxRecDepth 20000 in
theorem zcp_126 : Cond.code (zname 126) (zcode 126) (zmaxL 126) (zrt 126) ∈ lw_tbl := List.mem_append_right _ (List.mem_append_right _ (List.mem_append_right _ (List.mem_append_right _ (List.mem_append_left _ (List.mem_of_getElem? (i := 221) rfl)))))
set_option maxRecDepth 20000 in
theorem zcp_127 : Cond.code (zname 127) (zcode 127) (zmaxL 127) (zrt 127) ∈ lw_tbl := List.mem_append_right _ (List.mem_append_right _ (List.mem_append_right _ (List.mem_append_right _ (List.mem_append_left _ (List.mem_of_getElem? (i := 225) rfl)))))
set_option maxRecDepth 20000 in
theorem zcp_128 : Cond.code (zname 128) (zcode 128) (zmaxL 128) (zrt 128) ∈ lw_tbl := List.mem_append_right _ (List.mem_append_right _ (List.mem_append_right _ (List.mem_append_right _ (List.mem_append_left _ (List.mem_of_getElem? (i := 229) rfl)))))
set_option maxRecDepth 20000 in
theorem zcp_129 : Cond.code (zname 129) (zcode 129) (zmaxL 129) (zrt 129) ∈ lw_tbl := List.mem_append_right _ (List.mem_append_right _ (List.mem_append_right _ (List.mem_append_right _ (List.mem_append_left _ (List.mem_of_getElem? (i := 233) rfl)))))
set_option maxRecDepth 20000 in
theorem zcp_130 : Cond.code (zname 130) (zcode 130) (zmaxL 130) (zrt 130) ∈ lw_tbl := List.mem_append_right _ (List.mem_append_right _ (List.mem_append_right _ (List.mem_append_right _ (List.mem_append_left _ (List.mem_of_getElem? (i := 237) rfl)))))
set_option maxRecDepth 20000 in
theorem zcp_131 : Cond.code (zname 131) (zcode 131) (zmaxL 131) (zrt 131) ∈ lw_tbl := List.mem_append_right _ (List.mem_append_right _ (List.mem_append_right _ (List.mem_append_right _ (List.mem_append_right _ (List.mem_of_getElem? (i := 1) rfl)))))
set_option maxRecDepth 20000 in
theorem zcp_132 : Cond.code (zname 132) (zcode 132) (zmaxL 132) (zrt 132) ∈ lw_tbl := List.mem_append_right _ (List.mem_append_right _ (List.mem_append_right _ (List.mem_append_right _ (List.mem_append_right _ (List.mem_of_getElem? (i := 5) rfl)))))
set_option maxRecDepth 20000 in
theorem zcp_133 : Cond.code (zname 133) (zcode 133) (zmaxL 133) (zrt 133) ∈ lw_tbl := List.mem_append_right _ (List.mem_append_right _ (List.mem_append_right _ (List.mem_append_right _ (List.mem_append_right _ (List.mem_of_getElem? (i := 9) rfl)))))
set_option maxRecDepth 20000 in
theorem zcp_134 : Cond.code (zname 134) (zcode 134) (zmaxL 134) (zrt 134) ∈ lw_tbl := List.mem_append_right _ (List.mem_append_right _ (List.mem_append_right _ (List.mem_append_right _ (List.mem_append_right _ (List.mem_of_getElem? (i := 13) rfl)))))
set_option maxRecDepth 20000 in
theorem zcp_135 : Cond.code (zname 135) (zcode 135) (zmaxL 135) (zrt 135) ∈ lw_tbl := List.mem_append_right _ (List.mem_append_right _ (List.mem_append_right _ (List.mem_append_right _ (List.mem_append_right _ (List.mem_of_getElem? (i := 17) rfl)))))
set_option maxRecDepth 20000 in
theorem zcp_136 : Cond.code (zname 136) (zcode 136) (zmaxL 136) (zrt 136) ∈ lw_tbl := List.mem_append_right _ (List.mem_append_right _ (List.mem_append_right _ (List.mem_append_right _ (List.mem_append_right _ (List.mem_of_getElem? (i := 21) rfl)))))
set_option maxRecDepth 20000 in
theorem zcp_137 : Cond.code (zname 137) (zcode 137) (zmaxL 137) (zrt 137) ∈ lw_tbl := List.mem_append_right _ (List.mem_append_right _ (List.mem_append_right _ (List.mem_append_right _ (List.mem_append_right _ (List.mem_of_getElem? (i := 25) rfl)))))
set_option maxRecDepth 20000 in
theorem zcp_138 : Cond.code (zname 138) (zcode 138) (zmaxL 138) (zrt 138) ∈ lw_tbl := List.mem_append_right _ (List.mem_append_right _ (List.mem_append_right _ (List.mem_append_right _ (List.mem_append_right _ (List.mem_of_getElem? (i := 29) rfl)))))
set_option maxRecDepth 20000 in
theorem zcp_139 : Cond.code (zname 139) (zcode 139) (zmaxL 139) (zrt 139) ∈ lw_tbl := List.mem_append_right _ (List.mem_append_right _ (List.mem_append_right _ (List.mem_append_right _ (List.mem_append_right _ (List.mem_of_getElem? (i := 33) rfl)))))
set_option maxRecDepth 20000 in
theorem zcp_140 : Cond.code (zname 140) (zcode 140) (zmaxL 140) (zrt 140) ∈ lw_tbl := List.mem_append_right _ (List.mem_append_right _ (List.mem_append_right _ (List.mem_append_right _ (List.mem_append_right _ (List.mem_of_getElem? (i := 37) rfl)))))
set_option maxRecDepth 20000 in
theorem zcp_141 : Cond.code (zname 141) (zcode 141) (zmaxL 141) (zrt 141) ∈ lw_tbl := List.mem_append_right _ (List.mem_append_right _ (List.mem_append_right _ (List.mem_append_right _ (List.mem_append_right _ (List.mem_of_getElem? (i := 41) rfl)))))
set_option maxRecDepth 20000 in
theorem zcp_142 : Cond.code (zname 142) (zcode 142) (zmaxL 142) (zrt 142) ∈ lw_tbl := List.mem_append_right _ (List.mem_append_right _ (List.mem_append_right _ (List.mem_append_right _ (List.mem_append_right _ (List.mem_of_getElem? (i := 45) rfl)))))
set_option maxRecDepth 20000 in
theorem zcp_143 : Cond.code (zname 143) (zcode 143) (zmaxL 143) (zrt 143) ∈ lw_tbl := List.mem_append_right _ (List.mem_append_right _ (List.mem_append_right _ (List.mem_append_right _ (List.mem_append_right _ (List.mem_of_getElem? (i := 48) rfl)))))
set_option maxRecDepth 20000 in
theorem zcp_144 : Cond.code (zname 144) (zcode 144) (zmaxL 144) (zrt 144) ∈ lw_tbl := List.mem_append_right _ (List.mem_append_right _ (List.mem_append_right _ (List.mem_append_right _ (List.mem_append_right _ (List.mem_of_getElem? (i := 52) rfl)))))
set_option maxRecDepth 20000 in
theorem zcp_145 : Cond.code (zname 145) (zcode 145) (zmaxL 145) (zrt 145) ∈ lw_tbl := List.mem_append_right _ (List.mem_append_right _ (List.mem_append_right _ (List.mem_append_right _ (List.mem_append_right _ (List.mem_of_getElem? (i := 56) rfl)))))
set_option maxRecDepth 20000 in
theorem zcp_146 : Cond.code (zname 146) (zcode 146) (zmaxL 146) (zrt 146) ∈ lw_tbl := List.mem_append_right _ (List.mem_append_right _ (List.mem_append_right _ (List.mem_append_right _ (List.mem_append_right _ (List.mem_of_getElem? (i := 60) rfl)))))
set_option maxRecDepth 20000 in
theorem zcp_147 : Cond.code (zname 147) (zcode 147) (zmaxL 147) (zrt 147) ∈ lw_tbl := List.mem_append_right _ (List.mem_append_right _ (List.mem_append_right _ (List.mem_append_right _ (List.mem_append_right _ (List.mem_of_getElem? (i := 64) rfl)))))
set_option maxRecDepth 20000 in
theorem zcp_148 : Cond.code (zname 148) (zcode 148) (zmaxL 148) (zrt 148) ∈ lw_tbl := List.mem_append_right _ (List.mem_append_right _ (List.mem_append_right _ (List.mem_append_right _ (List.mem_append_right _ (List.mem_of_getElem? (i := 68) rfl)))))
set_option maxRecDepth 20000 in
theorem zcp_149 : Cond.code (zname 149) (zcode 149) (zmaxL 149) (zrt 149) ∈ lw_tbl := List.mem_append_right _ (List.mem_append_right _ (List.mem_append_right _ (List.mem_append_right _ (List.mem_append_right _ (List.mem_of_getElem? (i := 72) rfl)))))
set_option maxRecDepth 20000 in
theorem zcp_150 : Cond.code (zname 150) (zcode 150) (zmaxL 150) (zrt 150) ∈ lw_tbl := List.mem_append_right _ (List.mem_append_right _ (List.mem_append_right _ (List.mem_append_right _ (List.mem_append_right _ (List.mem_of_getElem? (i := 75) rfl)))))
set_option maxRecDepth 20000 in
theorem zcp_151 : Cond.code (zname 151) (zcode 151) (zmaxL 151) (zrt 151) ∈ lw_tbl := List.mem_append_right _ (List.mem_append_right _ (List.mem_append_right _ (List.mem_append_right _ (List.mem_append_right _ (List.mem_of_getElem? (i := 79) rfl)))))
set_option maxRecDepth 20000 in
theorem zcp_152 : Cond.code (zname 152) (zcode 152) (zmaxL 152) (zrt 152) ∈ lw_tbl := List.mem_append_right _ (List.mem_append_right _ (List.mem_append_right _ (List.mem_append_right _ (List.mem_append_right _ (List.mem_of_getElem? (i := 83) rfl)))))
set_option maxRecDepth 20000 in
theorem zcp_153 : Cond.code (zname 153) (zcode 153) (zmaxL 153) (zrt 153) ∈ lw_tbl := List.mem_append_right _ (List.mem_append_right _ (List.mem_append_right _ (List.mem_append_right _ (List.mem_append_right _ (List.mem_of_getElem? (i := 87) rfl)))))
set_option maxRecDepth 20000 in
theorem zcp_154 : Cond.code (zname 154) (zcode 154) (zmaxL 154) (zrt 154) ∈ lw_tbl := List.mem_append_right _ (List.mem_append_right _ (List.mem_append_right _ (List.mem_append_right _ (List.mem_append_right _ (List.mem_of_getElem? (i := 91) rfl)))))
set_option maxRecDepth 20000 in
theorem zcp_155 : Cond.code (zname 155) (zcode 155) (zmaxL 155) (zrt 155) ∈ lw_tbl := List.mem_append_right _ (List.mem_append_right _ (List.mem_append_right _ (List.mem_append_right _ (List.mem_append_right _ (List.mem_of_getElem? (i := 95) rfl)))))
set_option maxRecDepth 20000 in
theorem zcp_156 : Cond.code (zname 156) (zcode 156) (zmaxL 156) (zrt 156) ∈ lw_tbl := List.mem_append_right _ (List.mem_append_right _ (List.mem_append_right _ (List.mem_append_right _ (List.mem_append_right _ (List.mem_of_getElem? (i := 99) rfl)))))
set_option maxRecDepth 20000 in
theorem zcp_157 : Cond.code (zname 157) (zcode 157) (zmaxL 157) (zrt 157) ∈ lw_tbl := List.mem_append_right _ (List.mem_append_right _ (List.mem_append_right _ (List.mem_append_right _ (List.mem_append_right _ (List.mem_of_getElem? (i := 103) rfl)))))
set_option maxRecDepth 20000 in
theorem zcp_158 : Cond.code (zname 158) (zcode 158) (zmaxL 158) (zrt 158) ∈ lw_tbl := List.mem_append_right _ (List.mem_append_right _ (List.mem_append_right _ (List.mem_append_right _ (List.mem_append_right _ (List.mem_of_getElem? (i := 107) rfl)))))
set_option maxRecDepth 20000 in
theorem zcp_159 : Cond.code (zname 159) (zcode 159) (zmaxL 159) (zrt 159) ∈ lw_tbl := List.mem_append_right _ (List.mem_append_right _ (List.mem_append_right _ (List.mem_append_right _ (List.mem_append_right _ (List.mem_of_getElem? (i := 111) rfl)))))
set_option maxRecDepth 20000 in
theorem zcp_160 : Cond.code (zname 160) (zcode 160) (zmaxL 160) (zrt 160) ∈ lw_tbl := List.mem_append_right _ (List.mem_append_right _ (List.mem_append_right _ (List.mem_append_right _ (List.mem_append_right _ (List.mem_of_getElem? (i := 115) rfl)))))
set_option maxRecDepth 20000 in
theorem zcp_161 : Cond.code (zname 161) (zcode 161) (zmaxL 161) (zrt 161) ∈ lw_tbl := List.mem_append_right _ (List.mem_append_right _ (List.mem_append_right _ (List.mem_append_right _ (List.mem_append_right _ (List.mem_of_getElem? (i := 119) rfl)))))
set_option maxRecDepth 20000 in
theorem zcp_162 : Cond.code (zname 162) (zcode 162) (zmaxL 162) (zrt 162) ∈ lw_tbl := List.mem_append_right _ (List.mem_append_right _ (List.mem_append_right _ (List.mem_append_right _ (List.mem_append_right _ (List.mem_of_getElem? (i := 123) rfl)))))
set_option maxRecDepth 20000 in
theorem zcp_163 : Cond.code (zname 163) (zcode 163) (zmaxL 163) (zrt 163) ∈ lw_tbl := List.mem_append_right _ (List.mem_append_left _ (List.mem_of_getElem? (i := 222) rfl))
set_option maxRecDepth 20000 in
theorem zcp_164 : Cond.code (zname 164) (zcode 164) (zmaxL 164) (zrt 164) ∈ lw_tbl := List.mem_append_right _ (List.mem_append_left _ (List.mem_of_getElem? (i := 226) rfl))
set_option maxRecDepth 20000 in
theorem zcp_165 : Cond.code (zname 165) (zcode 165) (zmaxL 165) (zrt 165) ∈ lw_tbl := List.mem_append_right _ (List.mem_append_left _ (List.mem_of_getElem? (i := 236) rfl))
set_option maxRecDepth 20000 in
theorem zcp_166 : Cond.code (zname 166) (zcode 166) (zmaxL 166) (zrt 166) ∈ lw_tbl := List.mem_append_right _ (List.mem_append_right _ (List.mem_append_left _ (List.mem_of_getElem? (i := 0) rfl)))
set_option maxRecDepth 20000 in
theorem zcp_167 : Cond.code (zname 167) (zcode 167) (zmaxL 167) (zrt 167) ∈ lw_tbl := List.mem_append_right _ (List.mem_append_right _ (List.mem_append_left _ (List.mem_of_getElem? (i := 6) rfl)))
set_option maxRecDepth 20000 in
theorem zcp_168 : Cond.code (zname 168) (zcode 168) (zmaxL 168) (zrt 168) ∈ lw_tbl := List.mem_append_right _ (List.mem_append_right _ (List.mem_append_left _ (List.mem_of_getElem? (i := 97) rfl)))
set_option maxRecDepth 20000 in
theorem zcp_169 : Cond.code (zname 169) (zcode 169) (zmaxL 169) (zrt 169) ∈ lw_tbl := List.mem_append_right _ (List.mem_append_right _ (List.mem_append_left _ (List.mem_of_getElem? (i := 101) rfl)))
set_option maxRecDepth 20000 in
theorem zcp_170 : Cond.code (zname 170) (zcode 170) (zmaxL 170) (zrt 170) ∈ lw_tbl := List.mem_append_right _ (List.mem_append_right _ (List.mem_append_left _ (List.mem_of_getElem? (i := 3) rfl)))
set_option maxRecDepth 20000 in
theorem zcp_171 : Cond.code (zname 171) (zcode 171) (zmaxL 171) (zrt 171) ∈ lw_tbl := List.mem_append_right _ (List.mem_append_right _ (List.mem_append_left _ (List.mem_of_getElem? (i := 105) rfl)))
set_option maxRecDepth 20000 in
theorem zcp_172 : Cond.code (zname 172) (zcode 172) (zmaxL 172) (zrt 172) ∈ lw_tbl := List.mem_append_right _ (List.mem_append_right _ (List.mem_append_left _ (List.mem_of_getElem? (i := 108) rfl)))
set_option maxRecDepth 20000 in
theorem zcp_173 : Cond.code (zname 173) (zcode 173) (zmaxL 173) (zrt 173) ∈ lw_tbl := List.mem_append_right _ (List.mem_append_right _ (List.mem_append_left _ (List.mem_of_getElem? (i := 117) rfl)))
set_option maxRecDepth 20000 in
theorem zcp_174 : Cond.code (zname 174) (zcode 174) (zmaxL 174) (zrt 174) ∈ lw_tbl := List.mem_append_right _ (List.mem_append_right _ (List.mem_append_left _ (List.mem_of_getElem? (i := 11) rfl)))
set_option maxRecDepth 20000 in
theorem zcp_175 : Cond.code (zname 175) (zcode 175) (zmaxL 175) (zrt 175) ∈ lw_tbl := List.mem_append_right _ (List.mem_append_right _ (List.mem_append_left _ (List.mem_of_getElem? (i := 226) rfl)))
theorem zcode_tb : ∀ j, j < zNM → Cond.code (zname j) (zcode j) (zmaxL j) (zrt j) ∈ lw_tbl := fun j hj => match j, hj with
  | 0, _ => zcp_0
  | 1, _ => zcp_1
  | 2, _ => zcp_2
  | 3, _ => zcp_3
  | 4, _ => zcp_4
  | 5, _ => zcp_5
  | 6, _ => zcp_6
  | 7, _ => zcp_7
  | 8, _ => zcp_8
  | 9, _ => zcp_9
  | 10, _ => zcp_10
  | 11, _ => zcp_11
  | 12, _ => zcp_12
  | 13, _ => zcp_13
  | 14, _ => zcp_14
  | 15, _ => zcp_15
  | 16, _ => zcp_16
  | 17, _ => zcp_17
  | 18, _ => zcp_18
  | 19, _ => zcp_19
  | 20, _ => zcp_20
  | 21, _ => zcp_21
  | 22, _ => zcp_22
  | 23, _ => zcp_23
  | 24, _ => zcp_24
  | 25, _ => zcp_25
  | 26, _ => zcp_26
  | 27, _ => zcp_27
  | 28, _ => zcp_28
  | 29, _ => zcp_29
  | 30, _ => zcp_30
  | 31, _ => zcp_31
  | 32, _ => zcp_32
  | 33, _ => zcp_33
  | 34, _ => zcp_34
  | 35, _ => zcp_35
  | 36, _ => zcp_36
  | 37, _ => zcp_37
  | 38, _ => zcp_38
  | 39, _ => zcp_39
  | 40, _ => zcp_40
  | 41, _ => zcp_41
  | 42, _ => zcp_42
  | 43, _ => zcp_43
  | 44, _ => zcp_44
  | 45, _ => zcp_45
  | 46, _ => zcp_46
  | 47, _ => zcp_47
  | 48, _ => zcp_48
  | 49, _ => zcp_49
  | 50, _ => zcp_50
  | 51, _ => zcp_51
  | 52, _ => zcp_52
  | 53, _ => zcp_53
  | 54, _ => zcp_54
  | 55, _ => zcp_55
  | 56, _ => zcp_56
  | 57, _ => zcp_57
  | 58, _ => zcp_58
  | 59, _ => zcp_59
  | 60, _ => zcp_60
  | 61, _ => zcp_61
  | 62, _ => zcp_62
  | 63, _ => zcp_63
  | 64, _ => zcp_64
  | 65, _ => zcp_65
  | 66, _ => zcp_66
  | 67, _ => zcp_67
  | 68, _ => zcp_68
  | 69, _ => zcp_69
  | 70, _ => zcp_70
  | 71, _ => zcp_71
  | 72, _ => zcp_72
  | 73, _ => zcp_73
  | 74, _ => zcp_74
  | 75, _ => zcp_75
  | 76, _ => zcp_76
  | 77, _ => zcp_77
  | 78, _ => zcp_78
  | 79, _ => zcp_79
  | 80, _ => zcp_80
  | 81, _ => zcp_81
  | 82, _ => zcp_82
  | 83, _ => zcp_83
  | 84, _ => zcp_84
  | 85, _ => zcp_85
  | 86, _ => zcp_86
  | 87, _ => zcp_87
  | 88, _ => zcp_88
  | 89, _ => zcp_89
  | 90, _ => zcp_90
  | 91, _ => zcp_91
  | 92, _ => zcp_92
  | 93, _ => zcp_93
  | 94, _ => zcp_94
  | 95, _ => zcp_95
  | 96, _ => zcp_96
  | 97, _ => zcp_97
  | 98, _ => zcp_98
  | 99, _ => zcp_99
  | 100, _ => zcp_100
  | 101, _ => zcp_101
  | 102, _ => zcp_102
  | 103, _ => zcp_103
  | 104, _ => zcp_104
  | 105, _ => zcp_105
  | 106, _ => zcp_106
  | 107, _ => zcp_107
  | 108, _ => zcp_108
  | 109, _ => zcp_109
  | 110, _ => zcp_110
  | 111, _ => zcp_111
  | 112, _ => zcp_112
  | 113, _ => zcp_113
  | 114, _ => zcp_114
  | 115, _ => zcp_115
  | 116, _ => zcp_116
  | 117, _ => zcp_117
  | 118, _ => zcp_118
  | 119, _ => zcp_119
  | 120, _ => zcp_120
  | 121, _ => zcp_121
  | 122, _ => zcp_122
  | 123, _ => zcp_123
  | 124, _ => zcp_124
  | 125, _ => zcp_125
  | 126, _ => zcp_126
  | 127, _ => zcp_127
  | 128, _ => zcp_128
  | 129, _ => zcp_129
  | 130, _ => zcp_130
  | 131, _ => zcp_131
  | 132, _ => zcp_132
  | 133, _ => zcp_133
  | 134, _ => zcp_134
  | 135, _ => zcp_135
  | 136, _ => zcp_136
  | 137, _ => zcp_137
  | 138, _ => zcp_138
  | 139, _ => zcp_139
  | 140, _ => zcp_140
  | 141, _ => zcp_141
  | 142, _ => zcp_142
  | 143, _ => zcp_143
  | 144, _ => zcp_144
  | 145, _ => zcp_145
  | 146, _ => zcp_146
  | 147, _ => zcp_147
  | 148, _ => zcp_148
  | 149, _ => zcp_149
  | 150, _ => zcp_150
  | 151, _ => zcp_151
  | 152, _ => zcp_152
  | 153, _ => zcp_153
  | 154, _ => zcp_154
  | 155, _ => zcp_155
  | 156, _ => zcp_156
  | 157, _ => zcp_157
  | 158, _ => zcp_158
  | 159, _ => zcp_159
  | 160, _ => zcp_160
  | 161, _ => zcp_161
  | 162, _ => zcp_162
  | 163, _ => zcp_163
  | 164, _ => zcp_164
  | 165, _ => zcp_165
  | 166, _ => zcp_166
  | 167, _ => zcp_167
  | 168, _ => zcp_168
  | 169, _ => zcp_169
  | 170, _ => zcp_170
  | 171, _ => zcp_171
  | 172, _ => zcp_172
  | 173, _ => zcp_173
  | 174, _ => zcp_174
  | 175, _ => zcp_175
  | j + 176, hj => absurd hj (by show ¬ (j + 176 < 176); omega)
theorem zcode_in {j : Nat} (h : zjok j = true) : Cond.code (zname j) (zcode j) (zmaxL j) (zrt j) ∈ zcore := List.mem_filter.mpr ⟨zcode_tb j (of_decide_eq_true h), rfl⟩
theorem zgoodW {j : Nat} (h : Cond.code (zname j) (zcode j) (zmaxL j) (zrt j) ∈ zcore) : GoodIn zcore (zws j) := fun w hw => by
  rcases List.mem_cons.mp hw with rfl | hw
  · exact zgood_all h
  · exact zgood_all hw
theorem zgoodA {a b : List Cond} (ha : ∀ w ∈ a, w ∈ zcore) (hb : GoodIn zcore b) : GoodIn zcore (a ++ b) := fun w hw => (List.mem_append.mp hw).elim (fun h => zgood_all (ha w h)) (hb w)
def zds (j n : Nat) : Bool := decide ((parseMethodDescriptor (zname j).desc).map (fun d => d.parameters.length) = some n)
def znl (o i j : Nat) : Bool := znM.any (fun e => decide (e.1 = zRn o) && decide (e.2.1 = i) && decide (e.2.2.1 = zname j))
theorem znl_ok {o i j : Nat} (h : znl o i j = true) : ∃ host, (zRn o, i, zname j, host) ∈ znM := by
  obtain ⟨e, he, h1⟩ := List.any_eq_true.mp h
  simp only [Bool.and_eq_true, decide_eq_true_eq] at h1
  obtain ⟨a, b, c, d⟩ := e
  obtain ⟨⟨rfl, rfl⟩, rfl⟩ := h1
  exact ⟨d, he⟩
/-- what the words say of a link -/
def zmck (o i kd j n : Nat) (ps : List Nat) : Bool := match kd with
  | 0 => zjok j && zat (ps.getD 0 0) (.methodLink (zRn o) i (zname j)) && zat (ps.getD 1 0) (.instanceMethod (zname j)) && zat (ps.getD 2 0) (.selects (zRn (zown j)) (zname j) (zname j)) && zat (ps.getD 3 0) (.initialized (zRn (zown j))) && zds j n
  | 1 => zjok j && znl o i j && zat (ps.getD 1 0) (.instanceMethod (zname j)) && zat (ps.getD 2 0) (.selects (zRn (zown j)) (zname j) (zname j)) && zat (ps.getD 3 0) (.initialized (zname j).cls) && zds j n
  | 2 => zjok j && zat (ps.getD 0 0) (.methodLink (zRn o) i (zname j)) && zat (ps.getD 1 0) (.static (zname j)) && zat (ps.getD 2 0) (.initialized (zname j).cls) && zds j n
  | 3 => zjok j && znl o i j && zat (ps.getD 1 0) (.static (zname j)) && zat (ps.getD 2 0) (.initialized (zname j).cls) && zds j n
  | 4 => zjok j && zat (ps.getD 0 0) (.methodLink (zRn o) i (zname j)) && zat (ps.getD 1 0) (.instanceMethod (zname j)) && zat (ps.getD 2 0) (.initialized (zname j).cls) && zini j && zds j n
  | 5 => zjok j && znl o i j && zat (ps.getD 1 0) (.instanceMethod (zname j)) && zat (ps.getD 2 0) (.initialized (zname j).cls) && zini j && zds j n
  | 6 => zat (ps.getD 0 0) (.methodLink (zRn o) i Lib.objectInit)
  | 7 => zat (ps.getD 0 0) (.methodLink (zRn o) i Lib.Math.max.name) && zat (ps.getD 1 0) (.static Lib.Math.max.name) && zat (ps.getD 2 0) (.initialized "java/lang/Math")
  | 9 => zat (ps.getD 0 0) (.methodLink (zRn o) i Lib.Math.min.name) && zat (ps.getD 1 0) (.static Lib.Math.min.name) && zat (ps.getD 2 0) (.initialized "java/lang/Math")
  | 8 => zat (ps.getD 0 0) (.methodLink (zRn o) i ⟨"BedMessages$Kind", "ordinal", "()I"⟩)
  | _ => true
def zmc (o i : Nat) (q : Nat × Nat × Nat) : Bool := match zlk zmpT o i with
  | some ps => zmck o i q.1 q.2.1 q.2.2 ps
  | none => false
theorem zml_all : (List.range zmlT.length).all (fun o => (zmlT.getD o []).all (fun e => zmc o e.1 e.2)) = true := by decide +kernel
theorem zml_ck {o i kd j n : Nat} (h : zml o i = some (kd, j, n)) : ∃ ps, zmck o i kd j n ps = true := by
  have h1 := zlk_all (p := zmc) zml_all h
  unfold zmc at h1
  split at h1
  · exact ⟨_, h1⟩
  · cases h1
theorem zobj_in : Cond.instanceMethod Lib.objectInit ∈ zcore := zat_ok (p := 84) (by decide +kernel)
theorem zobj_code : Cond.code Lib.objectInit ⟨#[0xb1]⟩ 1 none ∈ zcore := zat_ok (p := 85) (by decide +kernel)
theorem zmax_code : Cond.code Lib.Math.max.name Lib.Math.max.code 2 (some .int) ∈ zcore := zat_ok (p := 411) (by decide +kernel)
theorem zmin_code : Cond.code Lib.Math.min.name Lib.Math.min.code 2 (some .int) ∈ zcore := zat_ok (p := 414) (by decide +kernel)
theorem zarr_int : Cond.arrayClass .int ∈ zcore := zat_ok (p := 138) (by decide +kernel)
theorem zarr_char : Cond.arrayClass .char ∈ zcore := zat_ok (p := 107) (by decide +kernel)
theorem zarr_long : Cond.arrayClass .long ∈ zcore := zat_ok (p := 165) (by decide +kernel)
theorem zarr_boolean : Cond.arrayClass .boolean ∈ zcore := zat_ok (p := 882) (by decide +kernel)
theorem zml_obj {o i a b : Nat} (h : zml o i = some (6, a, b)) : Cond.methodLink (zRn o) i Lib.objectInit ∈ zcore ∧ Cond.instanceMethod Lib.objectInit ∈ zcore ∧ Cond.code Lib.objectInit ⟨#[0xb1]⟩ 1 none ∈ zcore := by
  obtain ⟨ps, h1⟩ := zml_ck h
  exact ⟨zat_ok h1, zobj_in, zobj_code⟩
theorem zml_max {o i a b : Nat} (h : zml o i = some (7, a, b)) : Cond.methodLink (zRn o) i Lib.Math.max.name ∈ zcore ∧ Cond.static Lib.Math.max.name ∈ zcore ∧ Cond.initialized "java/lang/Math" ∈ zcore ∧ Cond.code Lib.Math.max.name Lib.Math.max.code 2 (some .int) ∈ zcore := by
  obtain ⟨ps, h1⟩ := zml_ck h
  unfold zmck at h1
  simp only [Bool.and_eq_true] at h1
  exact ⟨zat_ok h1.1.1, zat_ok h1.1.2, zat_ok h1.2, zmax_code⟩
theorem zml_min {o i a b : Nat} (h : zml o i = some (9, a, b)) : Cond.methodLink (zRn o) i Lib.Math.min.name ∈ zcore ∧ Cond.static Lib.Math.min.name ∈ zcore ∧ Cond.initialized "java/lang/Math" ∈ zcore ∧ Cond.code Lib.Math.min.name Lib.Math.min.code 2 (some .int) ∈ zcore := by
  obtain ⟨ps, h1⟩ := zml_ck h
  unfold zmck at h1
  simp only [Bool.and_eq_true] at h1
  exact ⟨zat_ok h1.1.1, zat_ok h1.1.2, zat_ok h1.2, zmin_code⟩
theorem zml_v {o i j n : Nat} (h : zml o i = some (0, j, n)) : zjok j = true ∧ Cond.methodLink (zRn o) i (zname j) ∈ zcore ∧ Cond.instanceMethod (zname j) ∈ zcore ∧ Cond.selects (zRn (zown j)) (zname j) (zname j) ∈ zcore ∧ Cond.initialized (zRn (zown j)) ∈ zcore ∧ ((zname j).cls = zRn (zown j) ∧ (zname j).cls ≠ "java/lang/invoke/MethodHandle" ∧ (zname j).cls ≠ "java/lang/invoke/VarHandle" ∧ (parseMethodDescriptor (zname j).desc).map (fun d => d.parameters.length) = some n) := by
  obtain ⟨ps, h1⟩ := zml_ck h
  unfold zmck at h1
  simp only [Bool.and_eq_true] at h1
  have hj := h1.1.1.1.1.1
  exact ⟨hj, zat_ok h1.1.1.1.1.2, zat_ok h1.1.1.1.2, zat_ok h1.1.1.2, zat_ok h1.1.2, (zjok_ok hj).2, (znotMH hj).1, (znotMH hj).2, of_decide_eq_true h1.2⟩
theorem zml_vn {o i j n : Nat} (h : zml o i = some (1, j, n)) : zjok j = true ∧ (∃ host, (zRn o, i, zname j, host) ∈ znM) ∧ Cond.instanceMethod (zname j) ∈ zcore ∧ Cond.selects (zRn (zown j)) (zname j) (zname j) ∈ zcore ∧ Cond.initialized (zname j).cls ∈ zcore ∧ ((zname j).cls ≠ "java/lang/invoke/MethodHandle" ∧ (zname j).cls ≠ "java/lang/invoke/VarHandle" ∧ (parseMethodDescriptor (zname j).desc).map (fun d => d.parameters.length) = some n) := by
  obtain ⟨ps, h1⟩ := zml_ck h
  unfold zmck at h1
  simp only [Bool.and_eq_true] at h1
  have hj := h1.1.1.1.1.1
  exact ⟨hj, znl_ok h1.1.1.1.1.2, zat_ok h1.1.1.1.2, zat_ok h1.1.1.2, zat_ok h1.1.2, (znotMH hj).1, (znotMH hj).2, of_decide_eq_true h1.2⟩
theorem zml_s {o i j n : Nat} (h : zml o i = some (2, j, n)) : zjok j = true ∧ Cond.methodLink (zRn o) i (zname j) ∈ zcore ∧ Cond.static (zname j) ∈ zcore ∧ Cond.initialized (zname j).cls ∈ zcore ∧ ((zname j).cls ≠ "java/lang/invoke/MethodHandle" ∧ (zname j).cls ≠ "java/lang/invoke/VarHandle" ∧ (parseMethodDescriptor (zname j).desc).map (fun d => d.parameters.length) = some n) := by
  obtain ⟨ps, h1⟩ := zml_ck h
  unfold zmck at h1
  simp only [Bool.and_eq_true] at h1
  have hj := h1.1.1.1.1
  exact ⟨hj, zat_ok h1.1.1.1.2, zat_ok h1.1.1.2, zat_ok h1.1.2, (znotMH hj).1, (znotMH hj).2, of_decide_eq_true h1.2⟩
theorem zml_sn {o i j n : Nat} (h : zml o i = some (3, j, n)) : zjok j = true ∧ (∃ host, (zRn o, i, zname j, host) ∈ znM) ∧ Cond.static (zname j) ∈ zcore ∧ Cond.initialized (zname j).cls ∈ zcore ∧ ((zname j).cls ≠ "java/lang/invoke/MethodHandle" ∧ (zname j).cls ≠ "java/lang/invoke/VarHandle" ∧ (parseMethodDescriptor (zname j).desc).map (fun d => d.parameters.length) = some n) := by
  obtain ⟨ps, h1⟩ := zml_ck h
  unfold zmck at h1
  simp only [Bool.and_eq_true] at h1
  have hj := h1.1.1.1.1
  exact ⟨hj, znl_ok h1.1.1.1.2, zat_ok h1.1.1.2, zat_ok h1.1.2, (znotMH hj).1, (znotMH hj).2, of_decide_eq_true h1.2⟩
theorem zml_i {o i j n : Nat} (h : zml o i = some (4, j, n)) : zjok j = true ∧ Cond.methodLink (zRn o) i (zname j) ∈ zcore ∧ Cond.instanceMethod (zname j) ∈ zcore ∧ Cond.initialized (zname j).cls ∈ zcore ∧ (zname j).name = "<init>" ∧ zrt j = none ∧ ((zname j).cls ≠ "java/lang/invoke/MethodHandle" ∧ (zname j).cls ≠ "java/lang/invoke/VarHandle" ∧ (parseMethodDescriptor (zname j).desc).map (fun d => d.parameters.length) = some n) := by
  obtain ⟨ps, h1⟩ := zml_ck h
  unfold zmck at h1
  simp only [Bool.and_eq_true] at h1
  have hj := h1.1.1.1.1.1
  exact ⟨hj, zat_ok h1.1.1.1.1.2, zat_ok h1.1.1.1.2, zat_ok h1.1.1.2, zini_ok h1.1.2, zini_rt h1.1.2, (znotMH hj).1, (znotMH hj).2, of_decide_eq_true h1.2⟩
theorem zml_in {o i j n : Nat} (h : zml o i = some (5, j, n)) : zjok j = true ∧ (∃ host, (zRn o, i, zname j, host) ∈ znM) ∧ Cond.instanceMethod (zname j) ∈ zcore ∧ Cond.initialized (zname j).cls ∈ zcore ∧ (zname j).name = "<init>" ∧ zrt j = none ∧ ((zname j).cls ≠ "java/lang/invoke/MethodHandle" ∧ (zname j).cls ≠ "java/lang/invoke/VarHandle" ∧ (parseMethodDescriptor (zname j).desc).map (fun d => d.parameters.length) = some n) := by
  obtain ⟨ps, h1⟩ := zml_ck h
  unfold zmck at h1
  simp only [Bool.and_eq_true] at h1
  have hj := h1.1.1.1.1.1
  exact ⟨hj, znl_ok h1.1.1.1.1.2, zat_ok h1.1.1.1.2, zat_ok h1.1.1.2, zini_ok h1.1.2, zini_rt h1.1.2, (znotMH hj).1, (znotMH hj).2, of_decide_eq_true h1.2⟩
theorem zgoodV {o i j : Nat} (w1 : Cond.methodLink (zRn o) i (zname j) ∈ zcore) (w2 : Cond.instanceMethod (zname j) ∈ zcore) (w3 : Cond.selects (zRn (zown j)) (zname j) (zname j) ∈ zcore) (w4 : Cond.initialized (zRn (zown j)) ∈ zcore) (hc : Cond.code (zname j) (zcode j) (zmaxL j) (zrt j) ∈ zcore) : GoodIn zcore (wsV (zRn o) i (zRn (zown j)) (zname j) (zws j)) :=
  zgoodA (fun w hw => by
    rcases List.mem_cons.mp hw with rfl | hw
    · exact w1
    rcases List.mem_cons.mp hw with rfl | hw
    · exact w2
    rcases List.mem_cons.mp hw with rfl | hw
    · exact w3
    rcases List.mem_cons.mp hw with rfl | hw
    · exact w4
    cases hw) (zgoodW hc)
theorem zgoodS {o i j : Nat} (w1 : Cond.methodLink (zRn o) i (zname j) ∈ zcore) (w2 : Cond.static (zname j) ∈ zcore) (w3 : Cond.initialized (zname j).cls ∈ zcore) (hc : Cond.code (zname j) (zcode j) (zmaxL j) (zrt j) ∈ zcore) : GoodIn zcore (va_wsS (zRn o) i (zname j) (zws j)) :=
  zgoodA (fun w hw => by
    rcases List.mem_cons.mp hw with rfl | hw
    · exact w1
    rcases List.mem_cons.mp hw with rfl | hw
    · exact w2
    rcases List.mem_cons.mp hw with rfl | hw
    · exact w3
    cases hw) (zgoodW hc)
theorem zml_ordl {o i a b : Nat} (h : zml o i = some (8, a, b)) : Cond.methodLink (zRn o) i ⟨"BedMessages$Kind", "ordinal", "()I"⟩ ∈ zcore := by
  obtain ⟨ps, h1⟩ := zml_ck h
  exact zat_ok h1
theorem zord_2 : Cond.sameMethod "BedMessages$Kind" "java/lang/Enum" "ordinal" "()I" ∈ zcore := zat_ok (p := 522) (by decide +kernel)
theorem zord_3 : Cond.selects "BedMessages$Kind" ⟨"BedMessages$Kind", "ordinal", "()I"⟩ ⟨"java/lang/Enum", "ordinal", "()I"⟩ ∈ zcore := zat_ok (p := 524) (by decide +kernel)
theorem zord_4 : Cond.instanceMethod ⟨"java/lang/Enum", "ordinal", "()I"⟩ ∈ zcore := zat_ok (p := 525) (by decide +kernel)
theorem zord_6 : Cond.fieldLink "java/lang/Enum" 7 "java/lang/Enum" "ordinal" "I" ∈ zcore := zat_ok (p := 1149) (by decide +kernel)
theorem zord_5 : Cond.code ⟨"java/lang/Enum", "ordinal", "()I"⟩ prog_15_method_2_code 1 (some .int) ∈ zcore := zcode_in (j := j_Enum_ordinal) rfl
end
section
/-! A RUN of the pure machine is a run of the machine -/
def zENV (s : State) (D : va_G) (cA : Nat → ClassId) (ad : Nat → Nat) (base : Nat) (X : zX) : Prop :=
  (∀ q ∈ znF, va_Nw (.fieldLinkNest q.1 q.2.1 q.2.2.1 q.2.2.2.1 q.2.2.2.2.1 q.2.2.2.2.2) s) ∧ (∀ q ∈ znM, va_Nw (.methodLinkNest q.1 q.2.1 q.2.2.1 q.2.2.2) s) ∧ va_K D classes (ztys cA) s ∧ (∀ i, ad (zK + i) = base + i) ∧ base ≤ s.heap.size ∧
  (∀ q ∈ zSV X, va_Z q.1 q.2.1 q.2.2.1 (zv ad q.2.2.2) (zA base) s s.heap) ∧
  (∀ q ∈ zCF, va_OF (zfn q.2.1).1 (zfn q.2.1).2.1 (zfn q.2.1).2.2 (zv ad q.2.2) (ad q.1) (zA base) s s.heap) ∧
  (∀ q ∈ zCO, va_O (zRn q.2) (ad q.1) (zA base) s s.heap) ∧
  (∀ a t n f, zka X a = some (t, n, f) → va_T (zkty t) (ad a) n (fun j => zv ad (f j)) (zA base) s s.heap) ∧
  (∀ q ∈ zSR, vk_R (zRn q.1) q.2.1 q.2.2.1 (ad q.2.2.2) s) ∧ va_AO zPatN s
theorem zENV.go {s U : State} {D : va_G} {cA : Nat → ClassId} {ad : Nat → Nat} {base : Nat} {X : zX} (hW : s.WarmedH U.vm) (hz : s.heap.size ≤ U.heap.size) (hq : ∀ q : Nat, q < s.heap.size → ¬ zA base q → U.heap[q]? = s.heap[q]?) (h : zENV s D cA ad base X) : zENV U D cA ad base X := by
  obtain ⟨h1, h2, h3, h4, h5, h6, h7, h8, h9, h10, h11⟩ := h
  exact ⟨fun q m => va_Nw.warmF hW (h1 q m), fun q m => va_Nw.warmM hW (h2 q m), va_K.moved hW.alike h3, h4, Nat.le_trans h5 hz, fun q m => (va_Z.moved hW.alike (h6 q m)).kept hq, fun q m => (va_OF.moved hW.alike (h7 q m)).kept hq, fun q m => (va_O.moved hW.alike (h8 q m)).kept hq, fun a t n f m => (va_T.moved hW.alike (h9 a t n f m)).kept hq, fun q m => vk_R.warm hW (h10 q m), va_AO.moved hW.alike h11⟩
theorem zENV.same {s U : State} {D : va_G} {cA : Nat → ClassId} {ad : Nat → Nat} {base : Nat} {X : zX} (hv : s.vm = U.vm) (hh : U.heap = s.heap) (h : zENV s D cA ad base X) : zENV U D cA ad base X := by
  obtain ⟨h1, h2, h3, h4, h5, h6, h7, h8, h9, h10, h11⟩ := h
  have ha : s.vm.Alike U.vm := by rw [hv]; exact Vm.Alike.refl _
  have hq : ∀ q : Nat, q < s.heap.size → ¬ zA base q → U.heap[q]? = s.heap[q]? := fun q _ _ => by rw [hh]
  exact ⟨fun q m => va_Nw.same rfl hv (h1 q m), fun q m => va_Nw.same rfl hv (h2 q m), va_K.moved ha h3, h4, by rw [hh]; exact h5, fun q m => (va_Z.moved ha (h6 q m)).kept hq, fun q m => (va_OF.moved ha (h7 q m)).kept hq, fun q m => (va_O.moved ha (h8 q m)).kept hq, fun a t n f m => (va_T.moved ha (h9 a t n f m)).kept hq, fun q m => vk_R.same hv.symm (h10 q m), va_AO.moved ha h11⟩
/-- a method's frame -/
def zCx (p : Program) (s : State) (m : MethodId) (args : Array Value) (meth : Method) (c : Code) (j : Nat) (D : va_G) (cA : Nat → ClassId) (ad : Nat → Nat) (base : Nat) (X : zX) : Prop :=
  p.tables.exec = Jvm.exec ∧ c.code = zcode j ∧ c.maxLocals = zmaxL j ∧ s.vm.findClass (zRn (zown j)) = some m.cls ∧ (∀ w ∈ zcore, w.before args s = true) ∧ meth.name = (zname j).name ∧ zENV s D cA ad base X
def zRt (p : Program) (l : Launch) (e : Env) (R : Room) (s : State) (m : MethodId) (args : Array Value) (below : List Frame) (meth : Method) (c : Code) (Q : State → Prop) (D : va_G) (cA : Nat → ClassId) (ad : Nat → Nat) (base c0 s0 j : Nat) (v : Option Value) (h' : zH) : Prop :=
  ∀ (pc : Nat) (i : Jvm.ClassFile.Instr) (ls : Array Slot) (H : Heap) (locs : List Loc) (cells slots : Nat), decode (zcode j) pc = .ok (i, 1) → zret (zrt j) i v.toList = some v → zW D classes cA ad base h' H → va_S (zA base) s.heap H locs → cells + c0 = h'.1 → slots + s0 = h'.2.1 → W p l e R s m args below meth c H locs cells slots Q (F0 m pc ls (v.toList.map (zv ad)))
def zS (l : Launch) (D : va_G) (cA : Nat → ClassId) (ad : Nat → Nat) (base : Nat) (X : zX) (d j pc : Nat) (L : zL) (st : List Value) (h : zH) (v : Option Value) (h' : zH) : Prop :=
  (h.1 ≤ h'.1 ∧ h.2.1 ≤ h'.2.1) ∧ ∀ (p : Program) (e : Env) (R : Room) (s : State) (m : MethodId) (args : Array Value) (below : List Frame) (meth : Method) (c : Code) (Q : State → Prop) (c0 s0 : Nat), zCx p s m args meth c j D cA ad base X → d ≤ R.frames → 40 * d ≤ R.locals → h'.1 ≤ c0 + R.cells → h'.2.1 ≤ s0 + R.slots → zRt p l e R s m args below meth c Q D cA ad base c0 s0 j v h' → zGo p l e R s m args below meth c Q D classes cA ad base (zmaxL j) c0 s0 (pc, L, st, h)
theorem zentl_len (ad : Nat → Nat) (vs : List Value) : (lg_sl (vs.map (zv ad))).length = (zentl vs).length := by
  induction vs with
  | nil => rfl
  | cons v r ih =>
    have e : lg_sl ((v :: r).map (zv ad)) = (if v.category = 2 then [.val (zv ad v), .second] else [.val (zv ad v)]) ++ lg_sl (r.map (zv ad)) := by
      simp [lg_sl, zv_cat]
    rw [e, zentl, List.length_append, ih]
    split <;> simp <;> omega
theorem zentl_in (ad : Nat → Nat) : ∀ (vs : List Value) (k i : Nat) (v : Value), (zentl vs)[i]? = some (some v) → (k + i, zv ad v) ∈ lv_args k (vs.map (zv ad)) := by
  intro vs
  induction vs with
  | nil => intro k i v h; simp [zentl] at h
  | cons w r ih =>
    intro k i v h
    rw [zentl] at h
    rw [List.map_cons, lv_args, zv_cat]
    split at h
    · rename_i hc
      rw [if_pos hc]
      match i, h with
      | 0, h =>
        have e : some w = some v := by simpa using h
        cases e
        exact List.mem_cons_self
      | 1, h => simp at h
      | i + 2, h =>
        have := ih (k + 2) i v (by simpa using h)
        refine List.mem_cons_of_mem _ ?_
        rw [show k + (i + 2) = k + 2 + i by omega]
        exact this
    · rename_i hc
      rw [if_neg hc]
      match i, h with
      | 0, h =>
        have e : some w = some v := by simpa using h
        cases e
        exact List.mem_cons_self
      | i + 1, h =>
        have := ih (k + 1) i v (by simpa using h)
        refine List.mem_cons_of_mem _ ?_
        rw [show k + (i + 1) = k + 1 + i by omega]
        exact this
theorem zent_ok {ad : Nat → Nat} {ls : Array Slot} {n : Nat} {vs : List Value} (hl : lv_has ls n (lv_args 0 (vs.map (zv ad)))) (hlen : (zentl vs).length ≤ n) : zLH ad ls n (zent n vs) := by
  refine ⟨by simp [zent]; omega, hl.1, hl.2.1, fun i v h => ?_⟩
  unfold zent at h
  by_cases hi : i < (zentl vs).length
  · rw [List.getElem?_append_left hi] at h
    have := zentl_in ad vs 0 i v h
    rw [Nat.zero_add] at this
    exact hl.2.2 _ this
  · rw [List.getElem?_append_right (by omega), List.getElem?_replicate] at h
    split at h <;> simp at h
section ZM
variable {l : Launch} {D : va_G} {cA : Nat → ClassId} {ad : Nat → Nat} {base : Nat} {X : zX}
def zPc (D : va_G) (cA : Nat → ClassId) (ad : Nat → Nat) (base : Nat) (X : zX) (As : List Value) (h : zH) : Array Value → State → Prop := fun a U => a = (As.map (zv ad)).toArray ∧ zW D classes cA ad base h U.heap ∧ zENV U D cA ad base X
def zQc (D : va_G) (cA : Nat → ClassId) (ad : Nat → Nat) (base : Nat) (v : Option Value) (h1 : zH) : Array Value → State → Outcome → State → Prop := fun _ st oc t => oc = .returned (v.map (zv ad)) ∧ zW D classes cA ad base h1 t.heap ∧ va_F (zA base) st t
theorem z_met {d j : Nat} {As : List Value} {h h1 : zH} {v : Option Value} (hj : zjok j = true) (hlen : (zentl As).length ≤ zmaxL j) (hS : zS l D cA ad base X d j 0 (zent (zmaxL j) As) [] h v h1) :
    Met l (zname j) (zws j) { frames := d, cells := h1.1 - h.1, slots := h1.2.1 - h.2.1, locals := 40 * d } (zPc D cA ad base X As h) (zQc D cA ad base v h1) (h1.1 - h.1) (h1.2.1 - h.2.1) (zA base) := by
  obtain ⟨j1, j2⟩ := zjok_ok hj
  refine Met.ofW (cc := zcode j) (maxL := zmaxL j) (ret := zrt j) j1 rfl ?_
  intro p e s m args below meth c s₁ B hml hv
  obtain ⟨rfl, hw, hE⟩ := hv
  have hts := atoms_spec (ws := zws j) B.pre
  have hown : s.vm.findClass (zRn (zown j)) = some m.cls := by rw [← j2]; exact findClass_of_methodNamed B.named
  have hlk := B.notSynchronized
  rw [lg_entry_eq]
  have hl := lv_entry (As.map (zv ad)) (n := zmaxL j) (by rw [zentl_len]; exact hlen)
  obtain ⟨m1, m2⟩ := hS.1
  refine hS.2 p e _ s m _ below meth c _ h.1 h.2.1 ⟨B.exec, B.bytes, hml, hown, fun w hw => hts w (List.mem_cons_of_mem _ hw), (name_of_methodNamed B.named B.method).1, hE⟩ (Nat.le_refl _) (Nat.le_refl _) (by show h1.1 ≤ h.1 + (h1.1 - h.1); omega) (by show h1.2.1 ≤ h.2.1 + (h1.2.1 - h.2.1); omega) ?_ _ s.heap [] 0 0 (zent_ok hl hlen) hw va_S.rf (by show 0 + h.1 = h.1; omega) (by show 0 + h.2.1 = h.2.1; omega)
  intro pc i ls H locs cells slots hd hr hw1 hS1 hc hs
  obtain rfl : cells = h1.1 - h.1 := by omega
  obtain rfl : slots = h1.2.1 - h.2.1 := by omega
  have hret := B.returns
  have hq : ∀ t : State, t.heap = H → s.WarmedH t.vm → zQc D cA ad base v h1 (As.map (zv ad)).toArray s (.returned (v.map (zv ad))) t := fun t ht _ => ⟨rfl, by rw [ht]; exact hw1, hS1.F ht⟩
  unfold zret at hr
  split at hr
  · split at hr
    · rename_i x hx
      split at hr
      · rename_i hf
        cases hr
        unfold zrfit at hf
        split at hf
        · rename_i ht
          rw [ht] at hret
          exact W.zret B.exec B.bytes hret rfl hq hS1.2.2 hd
        · rename_i ht
          rw [ht] at hret
          simp only [Bool.or_eq_true, beq_iff_eq] at hf
          rcases hf with rfl | rfl
          · exact W.zret B.exec B.bytes hret (by decide) hq hS1.2.2 hd
          · exact W.zret B.exec B.bytes hret (by decide) hq hS1.2.2 hd
        · rename_i ht
          rw [ht] at hret
          exact W.zret B.exec B.bytes hret (of_decide_eq_true hf) hq hS1.2.2 hd
        · rename_i ht
          rw [ht] at hret
          exact W.zret B.exec B.bytes hret (of_decide_eq_true hf) hq hS1.2.2 hd
        · cases hf
      · cases hr
    · cases hr
  · split at hr
    · rename_i x hx
      split at hr
      · rename_i ht
        cases hr
        rw [ht] at hret
        exact W.lret B.exec B.bytes hret hq hS1.2.2 hd
      · cases hr
    · cases hr
  · split at hr
    · rename_i a hx
      split at hr
      · rename_i ht
        cases hr
        obtain ⟨rt, ht1, ht2⟩ := zrref_ok ht
        rw [ht1] at hret
        exact W.aret B.exec B.bytes hret ht2 (Or.inr ⟨_, rfl⟩) hq hS1.2.2 hd
      · cases hr
    · rename_i hx
      split at hr
      · rename_i ht
        cases hr
        obtain ⟨rt, ht1, ht2⟩ := zrref_ok ht
        rw [ht1] at hret
        exact W.aret B.exec B.bytes hret ht2 (Or.inl rfl) hq hS1.2.2 hd
      · cases hr
    · cases hr
  · split at hr
    · rename_i hx
      split at hr
      · rename_i ht
        cases hr
        rw [ht] at hret
        exact W.vret B.exec B.bytes hret hq hS1.2.2 hd
      · cases hr
    · cases hr
  · cases hr
end ZM
section ZC
variable {p : Program} {l : Launch} {e : Env} {R : Room} {s : State} {m : MethodId} {args : Array Value} {below : List Frame} {meth : Method} {c : Code} {Q : State → Prop} {D : va_G} {cA : Nat → ClassId} {ad : Nat → Nat} {base : Nat} {X : zX} {pc : Nat} {ls : Array Slot} {H : Heap} {locs : List Loc} {cells slots mc ms : Nat} {st0 rest : List Value} {a : Array Value} {v : Option Value} {h1 : zH} {free : Addr → Prop}
theorem z_call (hr : va_Run p l e R s m args below meth c H locs cells slots mc ms (F0 m pc ls st0) rest (zQc D cA ad base v h1 a) (zA base)) (hS : va_S (zA base) s.heap H locs)
    (kk : ∀ (H1 : Heap) (locs1 : List Loc), zW D classes cA ad base h1 H1 → va_S (zA base) s.heap H1 locs1 → W p l e R s m args below meth c H1 locs1 (cells + mc) (slots + ms) Q (F0 m (pc + 3) ls ((v.map (zv ad)).toList ++ rest))) : W p l e R s m args below meth c H locs cells slots Q (F0 m pc ls st0) := by
  intro T hT X
  obtain ⟨v', st₀, t, T', L, h0, X', hL, e1, e2, ⟨hv, hw, hz, hk⟩, st⟩ := hr T hT X
  cases hv
  rw [h0] at hz hk
  obtain ⟨t2, a1, b1⟩ := kk T'.heap (locs ++ L) (by rw [e1]; exact hw) ⟨Nat.le_trans hS.1 (by rw [e1]; exact hz), fun q w1 w2 => by rw [e1, hk q (Nat.lt_of_lt_of_le w1 hS.1) w2]; exact hS.2.1 q w1 w2, fun q hq => by
      rcases List.mem_append.mp hq with h | h
      · exact hS.2.2 q h
      · exact hL q h⟩ T' rfl X'
  exact ⟨t2, st t2 a1, b1⟩
end ZC
end
section
/-! CHECKS of the tables, by the kernel -/
def znf (o i : Nat) (e : String × String × String) : Bool := znF.any (fun q => decide (q.1 = zRn o) && decide (q.2.1 = i) && decide ((q.2.2.1, q.2.2.2.1, q.2.2.2.2.1) = e))
def zlnk (o i : Nat) (e : String × String × String) (ne : Bool) : Bool := if ne = true then znf o i e else (match zlk zfpT o i with
  | some p => zat p (.fieldLink (zRn o) i e.1 e.2.1 e.2.2)
  | none => false)
def znr (v : Value) : Bool := match v with
  | .int _ => true
  | .null => true
  | _ => false
def zcck (ci : Nat) : Bool := match classes[ci]? with
  | some r => (List.range r.2.2).all (fun x => decide (parseFieldDescriptor (r.2.1 x).2.2.1 = some (zty ci x))) && (List.range r.2.2).all (fun a => (List.range r.2.2).all (fun b => decide (a = b) || decide ((r.2.1 a).2.1 ≠ (r.2.1 b).2.1))) && (List.range r.2.2).all (fun x => zat ((zlyL.getD ci []).getD x 0) (u_lay r.1 r.2.1 x)) && decide (r.1 = zRn ci) && decide ((zdef ci).length = r.2.2) && (List.range r.2.2).all (fun x => decide (defaultValue (zty ci x) = vp_V (zdef ci) x)) && (zdef ci).all znr && zat (zipL.getD ci (0, 0)).1 (.instantiable r.1 r.2.2) && zat (zipL.getD ci (0, 0)).2 (.initialized r.1)
  | none => false
theorem zcck_all : (List.range 10).all zcck = true := by decide +kernel
def zfck (o i : Nat) (q : Nat × Nat × Bool) : Bool := match classes[q.1]? with
  | some r => decide (q.2.1 < r.2.2) && zlnk o i ((r.2.1 q.2.1).1, (r.2.1 q.2.1).2.1, (r.2.1 q.2.1).2.2.1) q.2.2 && decide ((r.2.1 q.2.1).2.2.2 = zfin q.1 q.2.1) && decide ((r.2.1 q.2.1).1 = r.1)
  | none => false
theorem zfl_all : (List.range zflT.length).all (fun o => (zflT.getD o []).all (fun e => zfck o e.1 e.2)) = true := by decide +kernel
theorem zal_at : zat 119 (.classLink (zRn 3) 15 zPatN) = true := by decide +kernel
def znn (v : Value) : Bool := match v with
  | .null => false
  | _ => true
theorem zslnn_all : (List.range zslT.length).all (fun o => (zslT.getD o []).all (fun e => znn e.2.1)) = true := by decide +kernel
def zkck (o i : Nat) (q : Nat × Bool) : Bool := zlnk o i (zfn q.1) q.2
theorem zkl_all : (List.range zklT.length).all (fun o => (zklT.getD o []).all (fun e => zkck o e.1 e.2)) = true := by decide +kernel
def zldk (o i : Nat) (v : Value) : Bool := match v with
  | .ref k => zSR.any (fun e => decide (e.1 = o) && decide (e.2.1 = i) && decide (e.2.2.2 = k))
  | _ => false
theorem zld_all : (List.range zldT.length).all (fun o => (zldT.getD o []).all (fun e => zldk o e.1 e.2)) = true := by decide +kernel
def zl2k (o i : Nat) (x : Int64) : Bool := match zlk zlqT o i with
  | some p => zat p (.constantLong (zRn o) i x)
  | none => false
theorem zl2_all : (List.range zl2T.length).all (fun o => (zl2T.getD o []).all (fun e => zl2k o e.1 e.2)) = true := by decide +kernel
def zslk (o i : Nat) (q : Value × (String × String × String) × Bool) : Bool := zlnk o i q.2.1 q.2.2 && decide ((q.2.1.1, q.2.1.2.1, q.2.1.2.2, q.1) ∈ zSV (0, fun _ => 0, .null))
theorem zsl_all : (List.range zslT.length).all (fun o => (zslT.getD o []).all (fun e => zslk o e.1 e.2)) = true := by decide +kernel
theorem zfmt_link : zlnk 11 1053 ("jdk/internal/util/Preconditions", "SIOOBE_FORMATTER", "Ljava/util/function/BiFunction;") false = true := by decide +kernel
def zclk (o i ci : Nat) : Bool := match zlk zcqT o i, classes[ci]? with
  | some p, some r => zat p (.classLink (zRn o) i r.1)
  | _, _ => false
theorem zcl_all : (List.range zclT.length).all (fun o => (zclT.getD o []).all (fun e => zclk o e.1 e.2)) = true := by decide +kernel
end
section
theorem zcat_map (ad : Nat → Nat) (r : List Value) : ((r.map (zv ad)).map fun v => v.category) = r.map fun v => v.category := by
  rw [List.map_map]
  exact List.map_congr_left (fun v _ => zv_cat ad v)
theorem zprep_len {kd jj n : Nat} {st As rest : List Value} {h : zH} (hp : zprep (kd, jj, n) st h = some (As, rest)) : (zentl As).length ≤ zmaxL jj := by
  unfold zprep at hp
  split at hp
  · cases hp
  · split at hp
    · split at hp
      · rename_i hc
        cases hp
        exact hc.2
      · cases hp
    · split at hp
      · split at hp
        · rename_i hc
          cases hp
          exact hc.2.1
        · cases hp
      · cases hp
theorem zprep_s {ad : Nat → Nat} {kd jj n : Nat} {st As rest : List Value} {h : zH} (hp : zprep (kd, jj, n) st h = some (As, rest)) (hk : kd = 2 ∨ kd = 3) : st.map (zv ad) = (As.map (zv ad)).reverse ++ rest.map (zv ad) ∧ As.length = n ∧ (rest.map fun v => v.category).sum ≤ 8 := by
  unfold zprep at hp
  split at hp
  · cases hp
  · rename_i hl
    have hl' : ¬ st.length < n := hl
    split at hp
    · rename_i hc
      cases hp
      refine ⟨?_, by simp; omega, hc.1⟩
      rw [List.map_reverse, List.reverse_reverse, ← List.map_append, List.take_append_drop]
    · cases hp
theorem zprep_i {ad : Nat → Nat} {kd jj n : Nat} {st As rest : List Value} {h : zH} (hp : zprep (kd, jj, n) st h = some (As, rest)) (hk : kd = 0 ∨ kd = 1 ∨ kd = 4 ∨ kd = 5) : ∃ b Bs, As = .ref b :: Bs ∧ st.map (zv ad) = (Bs.map (zv ad)).reverse ++ .ref (ad b) :: rest.map (zv ad) ∧ Bs.length = n ∧ (rest.map fun v => v.category).sum ≤ 8 ∧ ((kd = 0 ∨ kd = 1) → zrcv h b = some (zown jj)) := by
  unfold zprep at hp
  split at hp
  · cases hp
  · rename_i hl
    have hl' : ¬ st.length < n := hl
    split at hp
    · rename_i hc
      have hc' : kd = 2 ∨ kd = 3 := hc
      omega
    · split at hp
      · rename_i b r hb
        have hb' : st.drop n = .ref b :: r := hb
        split at hp
        · rename_i hc
          cases hp
          refine ⟨b, _, rfl, ?_, by simp; omega, hc.1, fun q => ?_⟩
          · rw [List.map_reverse, List.reverse_reverse]
            have e : Value.ref (ad b) :: rest.map (zv ad) = (st.drop n).map (zv ad) := by rw [hb']; rfl
            rw [e, ← List.map_append, List.take_append_drop]
          · rcases hc.2.2 with w | w | w
            · have w' : kd = 4 := w
              omega
            · have w' : kd = 5 := w
              omega
            · exact w
        · cases hp
      · cases hp
end
section
/-! WHAT THE TABLES SAY, as the steps want it -/
theorem znf_ok {o i : Nat} {e : String × String × String} (h : znf o i e = true) : ∃ host, (zRn o, i, e.1, e.2.1, e.2.2, host) ∈ znF := by
  obtain ⟨q, hq, h1⟩ := List.any_eq_true.mp h
  simp only [Bool.and_eq_true, decide_eq_true_eq] at h1
  obtain ⟨a, b, c, d, f, g⟩ := q
  obtain ⟨⟨rfl, rfl⟩, rfl⟩ := h1
  exact ⟨g, hq⟩
/-- a link of a field, plain or across the nest -/
theorem zlnk_ok {o i : Nat} {e : String × String × String} {ne : Bool} (h : zlnk o i e ne = true) : (ne = false ∧ Cond.fieldLink (zRn o) i e.1 e.2.1 e.2.2 ∈ zcore) ∨ (ne = true ∧ ∃ host, (zRn o, i, e.1, e.2.1, e.2.2, host) ∈ znF) := by
  unfold zlnk at h
  split at h
  · rename_i hn
    exact Or.inr ⟨hn, znf_ok h⟩
  · rename_i hn
    split at h
    · exact Or.inl ⟨Bool.eq_false_iff.mpr hn, zat_ok h⟩
    · cases h
theorem znr_map (ad : Nat → Nat) {l : List Value} (h : l.all znr = true) : l.map (zv ad) = l := by
  induction l with
  | nil => rfl
  | cons v r ih =>
    simp only [List.all_cons, Bool.and_eq_true] at h
    rw [List.map_cons, ih h.2]
    congr 1
    have h1 := h.1
    unfold znr at h1
    split at h1
    · rfl
    · rfl
    · cases h1
theorem zcls {ci : Nat} {C : String} {T : u_T} {N : Nat} (h : classes[ci]? = some (C, T, N)) : (∀ x, x < N → parseFieldDescriptor (T x).2.2.1 = some (zty ci x)) ∧ (∀ a, a < N → ∀ b, b < N → a ≠ b → (T a).2.1 ≠ (T b).2.1) ∧ (∀ w ∈ u_ws C T N, w ∈ zcore) ∧ C = zRn ci ∧ (zdef ci).length = N ∧ (∀ x, x < N → defaultValue (zty ci x) = vp_V (zdef ci) x) ∧ (zdef ci).all znr = true ∧ Cond.instantiable C N ∈ zcore ∧ Cond.initialized C ∈ zcore := by
  have hlt : ci < 10 := (List.getElem?_eq_some_iff.mp h).1
  have h1 := List.all_eq_true.mp zcck_all ci (List.mem_range.mpr hlt)
  unfold zcck at h1
  rw [h] at h1
  simp only [Bool.and_eq_true, List.all_eq_true, List.mem_range, decide_eq_true_eq, Bool.or_eq_true] at h1
  obtain ⟨⟨⟨⟨⟨⟨⟨⟨a1, a2⟩, a3⟩, a4⟩, a5⟩, a6⟩, a7⟩, a8⟩, a9⟩ := h1
  refine ⟨a1, fun a ha b hb hn => ?_, fun w hw => ?_, a4, a5, a6, List.all_eq_true.mpr a7, zat_ok a8, zat_ok a9⟩
  · rcases a2 a ha b hb with q | q
    · exact absurd q hn
    · exact q
  · obtain ⟨x, hx, rfl⟩ := List.mem_map.mp hw
    exact zat_ok (a3 x (List.mem_range.mp hx))
theorem zRn_cls {ci : Nat} {r : vw_C} (h : classes[ci]? = some r) : r.1 = zRn ci := (zcls (C := r.1) (T := r.2.1) (N := r.2.2) h).2.2.2.1
theorem zfl_ck {o i ci k : Nat} {ne : Bool} (h : zfl o i = some (ci, k, ne)) : ∃ C T N, classes[ci]? = some (C, T, N) ∧ k < N ∧ zlnk o i ((T k).1, (T k).2.1, (T k).2.2.1) ne = true ∧ (T k).2.2.2 = zfin ci k ∧ (T k).1 = C := by
  have h1 := zlk_all (p := zfck) zfl_all h
  unfold zfck at h1
  split at h1
  · rename_i r hr
    simp only [Bool.and_eq_true, decide_eq_true_eq] at h1
    exact ⟨r.1, r.2.1, r.2.2, hr, h1.1.1.1, h1.1.1.2, h1.1.2, h1.2⟩
  · cases h1
theorem zslnn {o i : Nat} {q : Value × (String × String × String) × Bool} (h : zlk zslT o i = some q) : q.1 ≠ .null := by
  have h1 : znn q.1 = true := zlk_all (p := fun _ _ e => znn e.1) zslnn_all h
  intro e
  rw [e] at h1
  cases h1
section ZFX
variable {s : State} {args : Array Value} {D : va_G} {cA : Nat → ClassId} {ad : Nat → Nat} {base : Nat} {X : zX} {o idx : Nat}
theorem zfl_get (hcore : ∀ w ∈ zcore, w.before args s = true) (hE : zENV s D cA ad base X) {ci k : Nat} {ne : Bool} (h : zfl o idx = some (ci, k, ne)) : ∃ C T N, classes[ci]? = some (C, T, N) ∧ k < N ∧ (∀ w ∈ u_ws C T N, w ∈ zcore) ∧ ((Cond.fieldLink (zRn o) idx (T k).1 (T k).2.1 (T k).2.2.1).before args s = true ∨ ∃ host, (Cond.fieldLinkNest (zRn o) idx (T k).1 (T k).2.1 (T k).2.2.1 host).before args s = true) := by
  obtain ⟨C, T, N, h1, h2, h3, -, -⟩ := zfl_ck h
  refine ⟨C, T, N, h1, h2, (zcls h1).2.2.1, ?_⟩
  rcases zlnk_ok h3 with ⟨-, q⟩ | ⟨-, host, q⟩
  · exact Or.inl (hcore _ q)
  · exact Or.inr ⟨host, va_Nw.use rfl (hE.1 _ q)⟩
theorem zfl_put {meth : Method} {ini : Bool} (hcore : ∀ w ∈ zcore, w.before args s = true) (hE : zENV s D cA ad base X) (hini : ini = true → meth.name = "<init>") {ci k : Nat} {ne : Bool} (h : zfl o idx = some (ci, k, ne)) (hf : zfin ci k = false ∨ (ini = true ∧ ci = o ∧ ne = false)) : ∃ C T N, classes[ci]? = some (C, T, N) ∧ k < N ∧ (∀ w ∈ u_ws C T N, w ∈ zcore) ∧ (∀ x, x < N → parseFieldDescriptor (T x).2.2.1 = some (zty ci x)) ∧ (∀ a, a < N → ∀ b, b < N → a ≠ b → (T a).2.1 ≠ (T b).2.1) ∧ (((T k).2.2.2 = false ∧ (Cond.fieldLink (zRn o) idx (T k).1 (T k).2.1 (T k).2.2.1).before args s = true) ∨ ((T k).2.2.2 = true ∧ meth.name = "<init>" ∧ (T k).1 = zRn o ∧ (Cond.fieldLink (zRn o) idx (T k).1 (T k).2.1 (T k).2.2.1).before args s = true) ∨ ((T k).2.2.2 = false ∧ ∃ host, (Cond.fieldLinkNest (zRn o) idx (T k).1 (T k).2.1 (T k).2.2.1 host).before args s = true)) := by
  obtain ⟨C, T, N, h1, h2, h3, h4, h5⟩ := zfl_ck h
  obtain ⟨c1, c2, c3, c4, -⟩ := zcls h1
  refine ⟨C, T, N, h1, h2, c3, c1, c2, ?_⟩
  rcases zlnk_ok h3 with ⟨hn, q⟩ | ⟨hn, host, q⟩
  · cases hz : zfin ci k with
    | false => exact Or.inl ⟨by rw [h4, hz], hcore _ q⟩
    | true =>
      rcases hf with hf | ⟨f1, f2, -⟩
      · rw [hf] at hz; cases hz
      · exact Or.inr (Or.inl ⟨by rw [h4, hz], hini f1, by rw [h5, c4, f2], hcore _ q⟩)
  · rcases hf with hf | ⟨f1, f2, f3⟩
    · exact Or.inr (Or.inr ⟨by rw [h4, hf], host, va_Nw.use rfl (hE.1 _ q)⟩)
    · rw [hn] at f3; cases f3
theorem zkf_ok (hcore : ∀ w ∈ zcore, w.before args s = true) (hE : zENV s D cA ad base X) {a : Nat} {v : Value} (h : zkf o idx a = some v) : ∃ oo n d, va_OF oo n d (zv ad v) (ad a) (zA base) s s.heap ∧ ((Cond.fieldLink (zRn o) idx oo n d).before args s = true ∨ ∃ host, (Cond.fieldLinkNest (zRn o) idx oo n d host).before args s = true) := by
  unfold zkf at h
  split at h
  · rename_i q hq
    have h1 := zlk_all (p := zkck) zkl_all hq
    have hm := zcf_mem h
    refine ⟨_, _, _, hE.2.2.2.2.2.2.1 _ hm, ?_⟩
    rcases zlnk_ok h1 with ⟨-, q⟩ | ⟨-, host, q⟩
    · exact Or.inl (hcore _ q)
    · exact Or.inr ⟨host, va_Nw.use rfl (hE.1 _ q)⟩
  · cases h
theorem zld_ok (hcore : ∀ w ∈ zcore, w.before args s = true) (hE : zENV s D cA ad base X) {v : Value} (h : zld o idx = some v) : (∃ x, v = .int x ∧ (Cond.constant (zRn o) idx x).before args s = true) ∨ (∃ k tx, v = .ref k ∧ vk_R (zRn o) idx tx (ad k) s) := by
  have h1 := zlk_all (p := zldk) zld_all h
  unfold zldk at h1
  split at h1
  · rename_i k
    obtain ⟨e, he, h2⟩ := List.any_eq_true.mp h1
    simp only [Bool.and_eq_true, decide_eq_true_eq] at h2
    obtain ⟨a, b, tx, k'⟩ := e
    obtain ⟨⟨rfl, rfl⟩, rfl⟩ := h2
    exact Or.inr ⟨_, tx, rfl, hE.2.2.2.2.2.2.2.2.2.1 _ he⟩
  · cases h1
theorem zl2_ok (hcore : ∀ w ∈ zcore, w.before args s = true) {x : Int64} (h : zl2 o idx = some x) : (Cond.constantLong (zRn o) idx x).before args s = true := by
  have h1 := zlk_all (p := zl2k) zl2_all h
  unfold zl2k at h1
  split at h1
  · exact hcore _ (zat_ok h1)
  · cases h1
theorem zsl_ok (hcore : ∀ w ∈ zcore, w.before args s = true) (hE : zENV s D cA ad base X) {q : Value × (String × String × String) × Bool} (h : zsl X o idx = some q) : ∃ C n d, va_Z C n d (zv ad q.1) (zA base) s s.heap ∧ ((Cond.fieldLink (zRn o) idx C n d).before args s = true ∨ ∃ host, (Cond.fieldLinkNest (zRn o) idx C n d host).before args s = true) := by
  unfold zsl at h
  split at h
  · rename_i hc
    obtain ⟨rfl, rfl⟩ := hc
    cases h
    refine ⟨_, _, _, hE.2.2.2.2.2.1 ("jdk/internal/util/Preconditions", "SIOOBE_FORMATTER", "Ljava/util/function/BiFunction;", X.2.2) (by simp [zSV]), ?_⟩
    rcases zlnk_ok zfmt_link with ⟨-, q⟩ | ⟨q, -⟩
    · exact Or.inl (hcore _ q)
    · cases q
  · have h1 := zlk_all (p := zslk) zsl_all h
    unfold zslk at h1
    simp only [Bool.and_eq_true, decide_eq_true_eq] at h1
    have hm : (q.2.1.1, q.2.1.2.1, q.2.1.2.2, q.1) ∈ zSV X ∨ q.1 = .null := by
      have h2 := h1.2
      simp only [zSV, List.mem_cons, List.not_mem_nil, or_false] at h2 ⊢
      rcases h2 with e | e | e | e
      · exact Or.inl (Or.inl e)
      · exact Or.inl (Or.inr (Or.inl e))
      · exact Or.inl (Or.inr (Or.inr (Or.inl e)))
      · exact Or.inr (congrArg (fun z : String × String × String × Value => z.2.2.2) e)
    have hnn : q.1 ≠ .null := zslnn h
    rcases hm with hm | hm
    · refine ⟨_, _, _, hE.2.2.2.2.2.1 _ hm, ?_⟩
      rcases zlnk_ok h1.1 with ⟨-, q⟩ | ⟨-, host, q⟩
      · exact Or.inl (hcore _ q)
      · exact Or.inr ⟨host, va_Nw.use rfl (hE.1 _ q)⟩
    · exact absurd hm hnn
theorem zal_ok (hcore : ∀ w ∈ zcore, w.before args s = true) (hE : zENV s D cA ad base X) (h : zal o idx = true) : (Cond.classLink (zRn o) idx zPatN).before args s = true ∧ (Cond.arrayOver (.object zPatN)).before args s = true := by
  obtain ⟨rfl, rfl⟩ := of_decide_eq_true h
  exact ⟨hcore _ (zat_ok zal_at), va_AO.use hE.2.2.2.2.2.2.2.2.2.2⟩
theorem zcl_ok (hcore : ∀ w ∈ zcore, w.before args s = true) {ci : Nat} (h : zcl o idx = some ci) : ∃ C T, classes[ci]? = some (C, T, (zdef ci).length) ∧ (∀ w ∈ u_ws C T (zdef ci).length, w ∈ zcore) ∧ (∀ x, x < (zdef ci).length → parseFieldDescriptor (T x).2.2.1 = some (zty ci x)) ∧ (∀ j, j < (zdef ci).length → defaultValue (zty ci j) = vp_V ((zdef ci).map (zv ad)) j) ∧ (Cond.classLink (zRn o) idx C).before args s = true ∧ (Cond.instantiable C (zdef ci).length).before args s = true ∧ (Cond.initialized C).before args s = true := by
  have h1 := zlk_all (p := zclk) zcl_all h
  unfold zclk at h1
  split at h1
  · rename_i p r hp hr
    obtain ⟨C, T, N⟩ := r
    obtain ⟨c1, c2, c3, c4, c5, c6, c7, c8, c9⟩ := zcls hr
    subst c5
    exact ⟨C, T, hr, c3, c1, by rw [znr_map ad c7]; exact c6, hcore _ (zat_ok h1), hcore _ c8, hcore _ c9⟩
  · cases h1
end ZFX
end
section
/-! SOUNDNESS -/
theorem zm_zgo (pc : Nat) (off : Int) (L : zL) (st : List Value) (h : zH) {F : zF} (hz : zgo pc off L st h = some F) : h.1 ≤ F.2.2.2.1 ∧ h.2.1 ≤ F.2.2.2.2.1 := by
  unfold zgo at hz
  repeat' split at hz
  all_goals first
    | (cases hz; done)
    | (cases hz; exact ⟨Nat.le_refl _, Nat.le_refl _⟩)
    | (cases hz; exact ⟨Nat.le_succ _, Nat.le_add_right _ _⟩)
theorem zm_zs_il (n pc i : Nat) (L : zL) (st : List Value) (h : zH) {F : zF} (hz : zs_il n pc i L st h = some F) : h.1 ≤ F.2.2.2.1 ∧ h.2.1 ≤ F.2.2.2.2.1 := by
  unfold zs_il at hz
  repeat' split at hz
  all_goals first
    | (cases hz; done)
    | (cases hz; exact ⟨Nat.le_refl _, Nat.le_refl _⟩)
    | (cases hz; exact ⟨Nat.le_succ _, Nat.le_add_right _ _⟩)
    | exact zm_zgo _ _ _ _ _ hz
theorem zm_zs_jl (n pc i : Nat) (L : zL) (st : List Value) (h : zH) {F : zF} (hz : zs_jl n pc i L st h = some F) : h.1 ≤ F.2.2.2.1 ∧ h.2.1 ≤ F.2.2.2.2.1 := by
  unfold zs_jl at hz
  repeat' split at hz
  all_goals first
    | (cases hz; done)
    | (cases hz; exact ⟨Nat.le_refl _, Nat.le_refl _⟩)
    | (cases hz; exact ⟨Nat.le_succ _, Nat.le_add_right _ _⟩)
    | exact zm_zgo _ _ _ _ _ hz
theorem zm_zs_al (n pc i : Nat) (L : zL) (st : List Value) (h : zH) {F : zF} (hz : zs_al n pc i L st h = some F) : h.1 ≤ F.2.2.2.1 ∧ h.2.1 ≤ F.2.2.2.2.1 := by
  unfold zs_al at hz
  repeat' split at hz
  all_goals first
    | (cases hz; done)
    | (cases hz; exact ⟨Nat.le_refl _, Nat.le_refl _⟩)
    | (cases hz; exact ⟨Nat.le_succ _, Nat.le_add_right _ _⟩)
    | exact zm_zgo _ _ _ _ _ hz
theorem zm_zs_is (n pc i : Nat) (L : zL) (st : List Value) (h : zH) {F : zF} (hz : zs_is n pc i L st h = some F) : h.1 ≤ F.2.2.2.1 ∧ h.2.1 ≤ F.2.2.2.2.1 := by
  unfold zs_is at hz
  repeat' split at hz
  all_goals first
    | (cases hz; done)
    | (cases hz; exact ⟨Nat.le_refl _, Nat.le_refl _⟩)
    | (cases hz; exact ⟨Nat.le_succ _, Nat.le_add_right _ _⟩)
    | exact zm_zgo _ _ _ _ _ hz
theorem zm_zs_js (n pc i : Nat) (L : zL) (st : List Value) (h : zH) {F : zF} (hz : zs_js n pc i L st h = some F) : h.1 ≤ F.2.2.2.1 ∧ h.2.1 ≤ F.2.2.2.2.1 := by
  unfold zs_js at hz
  repeat' split at hz
  all_goals first
    | (cases hz; done)
    | (cases hz; exact ⟨Nat.le_refl _, Nat.le_refl _⟩)
    | (cases hz; exact ⟨Nat.le_succ _, Nat.le_add_right _ _⟩)
    | exact zm_zgo _ _ _ _ _ hz
theorem zm_zs_as (n pc i : Nat) (L : zL) (st : List Value) (h : zH) {F : zF} (hz : zs_as n pc i L st h = some F) : h.1 ≤ F.2.2.2.1 ∧ h.2.1 ≤ F.2.2.2.2.1 := by
  unfold zs_as at hz
  repeat' split at hz
  all_goals first
    | (cases hz; done)
    | (cases hz; exact ⟨Nat.le_refl _, Nat.le_refl _⟩)
    | (cases hz; exact ⟨Nat.le_succ _, Nat.le_add_right _ _⟩)
    | exact zm_zgo _ _ _ _ _ hz
theorem zm_zs_inc (pc i : Nat) (k : Int) (L : zL) (st : List Value) (h : zH) {F : zF} (hz : zs_inc pc i k L st h = some F) : h.1 ≤ F.2.2.2.1 ∧ h.2.1 ≤ F.2.2.2.2.1 := by
  unfold zs_inc at hz
  repeat' split at hz
  all_goals first
    | (cases hz; done)
    | (cases hz; exact ⟨Nat.le_refl _, Nat.le_refl _⟩)
    | (cases hz; exact ⟨Nat.le_succ _, Nat.le_add_right _ _⟩)
    | exact zm_zgo _ _ _ _ _ hz
theorem zm_zs_ii (pc : Nat) (L : zL) (st : List Value) (h : zH) (f : Int32 → Int32 → Int32) {F : zF} (hz : zs_ii pc L st h f = some F) : h.1 ≤ F.2.2.2.1 ∧ h.2.1 ≤ F.2.2.2.2.1 := by
  unfold zs_ii at hz
  repeat' split at hz
  all_goals first
    | (cases hz; done)
    | (cases hz; exact ⟨Nat.le_refl _, Nat.le_refl _⟩)
    | (cases hz; exact ⟨Nat.le_succ _, Nat.le_add_right _ _⟩)
    | exact zm_zgo _ _ _ _ _ hz
theorem zm_zs_dv (pc : Nat) (L : zL) (st : List Value) (h : zH) (f : Int32 → Int32 → Int32) {F : zF} (hz : zs_dv pc L st h f = some F) : h.1 ≤ F.2.2.2.1 ∧ h.2.1 ≤ F.2.2.2.2.1 := by
  unfold zs_dv at hz
  repeat' split at hz
  all_goals first
    | (cases hz; done)
    | (cases hz; exact ⟨Nat.le_refl _, Nat.le_refl _⟩)
    | (cases hz; exact ⟨Nat.le_succ _, Nat.le_add_right _ _⟩)
    | exact zm_zgo _ _ _ _ _ hz
theorem zm_zs_jj (pc : Nat) (L : zL) (st : List Value) (h : zH) (f : Int64 → Int64 → Value) {F : zF} (hz : zs_jj pc L st h f = some F) : h.1 ≤ F.2.2.2.1 ∧ h.2.1 ≤ F.2.2.2.2.1 := by
  unfold zs_jj at hz
  repeat' split at hz
  all_goals first
    | (cases hz; done)
    | (cases hz; exact ⟨Nat.le_refl _, Nat.le_refl _⟩)
    | (cases hz; exact ⟨Nat.le_succ _, Nat.le_add_right _ _⟩)
    | exact zm_zgo _ _ _ _ _ hz
theorem zm_zs_ji (pc : Nat) (L : zL) (st : List Value) (h : zH) (f : Int64 → Int32 → Int64) {F : zF} (hz : zs_ji pc L st h f = some F) : h.1 ≤ F.2.2.2.1 ∧ h.2.1 ≤ F.2.2.2.2.1 := by
  unfold zs_ji at hz
  repeat' split at hz
  all_goals first
    | (cases hz; done)
    | (cases hz; exact ⟨Nat.le_refl _, Nat.le_refl _⟩)
    | (cases hz; exact ⟨Nat.le_succ _, Nat.le_add_right _ _⟩)
    | exact zm_zgo _ _ _ _ _ hz
theorem zm_zs_i1 (pc : Nat) (L : zL) (st : List Value) (h : zH) (f : Int32 → Value) {F : zF} (hz : zs_i1 pc L st h f = some F) : h.1 ≤ F.2.2.2.1 ∧ h.2.1 ≤ F.2.2.2.2.1 := by
  unfold zs_i1 at hz
  repeat' split at hz
  all_goals first
    | (cases hz; done)
    | (cases hz; exact ⟨Nat.le_refl _, Nat.le_refl _⟩)
    | (cases hz; exact ⟨Nat.le_succ _, Nat.le_add_right _ _⟩)
    | exact zm_zgo _ _ _ _ _ hz
theorem zm_zs_j1 (pc : Nat) (L : zL) (st : List Value) (h : zH) (f : Int64 → Value) {F : zF} (hz : zs_j1 pc L st h f = some F) : h.1 ≤ F.2.2.2.1 ∧ h.2.1 ≤ F.2.2.2.2.1 := by
  unfold zs_j1 at hz
  repeat' split at hz
  all_goals first
    | (cases hz; done)
    | (cases hz; exact ⟨Nat.le_refl _, Nat.le_refl _⟩)
    | (cases hz; exact ⟨Nat.le_succ _, Nat.le_add_right _ _⟩)
    | exact zm_zgo _ _ _ _ _ hz
theorem zm_zs_if (pc : Nat) (off : Int) (L : zL) (st : List Value) (h : zH) (f : Int32 → Bool) {F : zF} (hz : zs_if pc off L st h f = some F) : h.1 ≤ F.2.2.2.1 ∧ h.2.1 ≤ F.2.2.2.2.1 := by
  unfold zs_if at hz
  repeat' split at hz
  all_goals first
    | (cases hz; done)
    | (cases hz; exact ⟨Nat.le_refl _, Nat.le_refl _⟩)
    | (cases hz; exact ⟨Nat.le_succ _, Nat.le_add_right _ _⟩)
    | exact zm_zgo _ _ _ _ _ hz
theorem zm_zs_ic (pc : Nat) (off : Int) (L : zL) (st : List Value) (h : zH) (f : Int32 → Int32 → Bool) {F : zF} (hz : zs_ic pc off L st h f = some F) : h.1 ≤ F.2.2.2.1 ∧ h.2.1 ≤ F.2.2.2.2.1 := by
  unfold zs_ic at hz
  repeat' split at hz
  all_goals first
    | (cases hz; done)
    | (cases hz; exact ⟨Nat.le_refl _, Nat.le_refl _⟩)
    | (cases hz; exact ⟨Nat.le_succ _, Nat.le_add_right _ _⟩)
    | exact zm_zgo _ _ _ _ _ hz
theorem zm_zs_nu (pc : Nat) (off : Int) (L : zL) (st : List Value) (h : zH) {F : zF} (hz : zs_nu pc off L st h = some F) : h.1 ≤ F.2.2.2.1 ∧ h.2.1 ≤ F.2.2.2.2.1 := by
  unfold zs_nu at hz
  repeat' split at hz
  all_goals first
    | (cases hz; done)
    | (cases hz; exact ⟨Nat.le_refl _, Nat.le_refl _⟩)
    | (cases hz; exact ⟨Nat.le_succ _, Nat.le_add_right _ _⟩)
    | exact zm_zgo _ _ _ _ _ hz
theorem zm_zs_nn (pc : Nat) (off : Int) (L : zL) (st : List Value) (h : zH) {F : zF} (hz : zs_nn pc off L st h = some F) : h.1 ≤ F.2.2.2.1 ∧ h.2.1 ≤ F.2.2.2.2.1 := by
  unfold zs_nn at hz
  repeat' split at hz
  all_goals first
    | (cases hz; done)
    | (cases hz; exact ⟨Nat.le_refl _, Nat.le_refl _⟩)
    | (cases hz; exact ⟨Nat.le_succ _, Nat.le_add_right _ _⟩)
    | exact zm_zgo _ _ _ _ _ hz
theorem zm_zs_tab (pc : Nat) (dflt lo hi : Int) (offs : Array Int) (L : zL) (st : List Value) (h : zH) {F : zF} (hz : zs_tab pc dflt lo hi offs L st h = some F) : h.1 ≤ F.2.2.2.1 ∧ h.2.1 ≤ F.2.2.2.2.1 := by
  unfold zs_tab at hz
  repeat' split at hz
  all_goals first
    | (cases hz; done)
    | (cases hz; exact ⟨Nat.le_refl _, Nat.le_refl _⟩)
    | (cases hz; exact ⟨Nat.le_succ _, Nat.le_add_right _ _⟩)
    | exact zm_zgo _ _ _ _ _ hz
theorem zm_zs_dup (pc : Nat) (L : zL) (st : List Value) (h : zH) {F : zF} (hz : zs_dup pc L st h = some F) : h.1 ≤ F.2.2.2.1 ∧ h.2.1 ≤ F.2.2.2.2.1 := by
  unfold zs_dup at hz
  repeat' split at hz
  all_goals first
    | (cases hz; done)
    | (cases hz; exact ⟨Nat.le_refl _, Nat.le_refl _⟩)
    | (cases hz; exact ⟨Nat.le_succ _, Nat.le_add_right _ _⟩)
    | exact zm_zgo _ _ _ _ _ hz
theorem zm_zs_pop (pc : Nat) (L : zL) (st : List Value) (h : zH) {F : zF} (hz : zs_pop pc L st h = some F) : h.1 ≤ F.2.2.2.1 ∧ h.2.1 ≤ F.2.2.2.2.1 := by
  unfold zs_pop at hz
  repeat' split at hz
  all_goals first
    | (cases hz; done)
    | (cases hz; exact ⟨Nat.le_refl _, Nat.le_refl _⟩)
    | (cases hz; exact ⟨Nat.le_succ _, Nat.le_add_right _ _⟩)
    | exact zm_zgo _ _ _ _ _ hz
theorem zm_zs_dup2 (pc : Nat) (L : zL) (st : List Value) (h : zH) {F : zF} (hz : zs_dup2 pc L st h = some F) : h.1 ≤ F.2.2.2.1 ∧ h.2.1 ≤ F.2.2.2.2.1 := by
  unfold zs_dup2 at hz
  repeat' split at hz
  all_goals first
    | (cases hz; done)
    | (cases hz; exact ⟨Nat.le_refl _, Nat.le_refl _⟩)
    | (cases hz; exact ⟨Nat.le_succ _, Nat.le_add_right _ _⟩)
    | exact zm_zgo _ _ _ _ _ hz
theorem zm_zs_ldc (pc o idx : Nat) (L : zL) (st : List Value) (h : zH) {F : zF} (hz : zs_ldc pc o idx L st h = some F) : h.1 ≤ F.2.2.2.1 ∧ h.2.1 ≤ F.2.2.2.2.1 := by
  unfold zs_ldc at hz
  repeat' split at hz
  all_goals first
    | (cases hz; done)
    | (cases hz; exact ⟨Nat.le_refl _, Nat.le_refl _⟩)
    | (cases hz; exact ⟨Nat.le_succ _, Nat.le_add_right _ _⟩)
    | exact zm_zgo _ _ _ _ _ hz
theorem zm_zs_ldc2 (pc o idx : Nat) (L : zL) (st : List Value) (h : zH) {F : zF} (hz : zs_ldc2 pc o idx L st h = some F) : h.1 ≤ F.2.2.2.1 ∧ h.2.1 ≤ F.2.2.2.2.1 := by
  unfold zs_ldc2 at hz
  repeat' split at hz
  all_goals first
    | (cases hz; done)
    | (cases hz; exact ⟨Nat.le_refl _, Nat.le_refl _⟩)
    | (cases hz; exact ⟨Nat.le_succ _, Nat.le_add_right _ _⟩)
    | exact zm_zgo _ _ _ _ _ hz
theorem zm_zs_gets (pc o idx : Nat) (X : zX) (L : zL) (st : List Value) (h : zH) {F : zF} (hz : zs_gets pc o idx X L st h = some F) : h.1 ≤ F.2.2.2.1 ∧ h.2.1 ≤ F.2.2.2.2.1 := by
  unfold zs_gets at hz
  repeat' split at hz
  all_goals first
    | (cases hz; done)
    | (cases hz; exact ⟨Nat.le_refl _, Nat.le_refl _⟩)
    | (cases hz; exact ⟨Nat.le_succ _, Nat.le_add_right _ _⟩)
    | exact zm_zgo _ _ _ _ _ hz
theorem zm_zs_getf (pc o idx : Nat) (L : zL) (st : List Value) (h : zH) {F : zF} (hz : zs_getf pc o idx L st h = some F) : h.1 ≤ F.2.2.2.1 ∧ h.2.1 ≤ F.2.2.2.2.1 := by
  unfold zs_getf at hz
  repeat' split at hz
  all_goals first
    | (cases hz; done)
    | (cases hz; exact ⟨Nat.le_refl _, Nat.le_refl _⟩)
    | (cases hz; exact ⟨Nat.le_succ _, Nat.le_add_right _ _⟩)
    | exact zm_zgo _ _ _ _ _ hz
theorem zm_zs_putf (ini : Bool) (pc o idx : Nat) (L : zL) (st : List Value) (h : zH) {F : zF} (hz : zs_putf ini pc o idx L st h = some F) : h.1 ≤ F.2.2.2.1 ∧ h.2.1 ≤ F.2.2.2.2.1 := by
  unfold zs_putf at hz
  repeat' split at hz
  all_goals first
    | (cases hz; done)
    | (cases hz; exact ⟨Nat.le_refl _, Nat.le_refl _⟩)
    | (cases hz; exact ⟨Nat.le_succ _, Nat.le_add_right _ _⟩)
    | exact zm_zgo _ _ _ _ _ hz
theorem zm_zs_ald (pc t : Nat) (X : zX) (L : zL) (st : List Value) (h : zH) {F : zF} (hz : zs_ald pc t X L st h = some F) : h.1 ≤ F.2.2.2.1 ∧ h.2.1 ≤ F.2.2.2.2.1 := by
  unfold zs_ald at hz
  repeat' split at hz
  all_goals first
    | (cases hz; done)
    | (cases hz; exact ⟨Nat.le_refl _, Nat.le_refl _⟩)
    | (cases hz; exact ⟨Nat.le_succ _, Nat.le_add_right _ _⟩)
    | exact zm_zgo _ _ _ _ _ hz
theorem zm_zs_bld (pc : Nat) (X : zX) (L : zL) (st : List Value) (h : zH) {F : zF} (hz : zs_bld pc X L st h = some F) : h.1 ≤ F.2.2.2.1 ∧ h.2.1 ≤ F.2.2.2.2.1 := by
  unfold zs_bld at hz
  repeat' split at hz
  all_goals first
    | (cases hz; done)
    | (cases hz; exact ⟨Nat.le_refl _, Nat.le_refl _⟩)
    | (cases hz; exact ⟨Nat.le_succ _, Nat.le_add_right _ _⟩)
    | exact zm_zgo _ _ _ _ _ hz
theorem zm_zs_jld (pc : Nat) (L : zL) (st : List Value) (h : zH) {F : zF} (hz : zs_jld pc L st h = some F) : h.1 ≤ F.2.2.2.1 ∧ h.2.1 ≤ F.2.2.2.2.1 := by
  unfold zs_jld at hz
  repeat' split at hz
  all_goals first
    | (cases hz; done)
    | (cases hz; exact ⟨Nat.le_refl _, Nat.le_refl _⟩)
    | (cases hz; exact ⟨Nat.le_succ _, Nat.le_add_right _ _⟩)
    | exact zm_zgo _ _ _ _ _ hz
theorem zm_zs_rld (pc : Nat) (X : zX) (L : zL) (st : List Value) (h : zH) {F : zF} (hz : zs_rld pc X L st h = some F) : h.1 ≤ F.2.2.2.1 ∧ h.2.1 ≤ F.2.2.2.2.1 := by
  unfold zs_rld at hz
  repeat' split at hz
  all_goals first
    | (cases hz; done)
    | (cases hz; exact ⟨Nat.le_refl _, Nat.le_refl _⟩)
    | (cases hz; exact ⟨Nat.le_succ _, Nat.le_add_right _ _⟩)
    | exact zm_zgo _ _ _ _ _ hz
theorem zm_zs_ast (pc t : Nat) (ty : FieldType) (L : zL) (st : List Value) (h : zH) {F : zF} (hz : zs_ast pc t ty L st h = some F) : h.1 ≤ F.2.2.2.1 ∧ h.2.1 ≤ F.2.2.2.2.1 := by
  unfold zs_ast at hz
  repeat' split at hz
  all_goals first
    | (cases hz; done)
    | (cases hz; exact ⟨Nat.le_refl _, Nat.le_refl _⟩)
    | (cases hz; exact ⟨Nat.le_succ _, Nat.le_add_right _ _⟩)
    | exact zm_zgo _ _ _ _ _ hz
theorem zm_zs_jst (pc : Nat) (L : zL) (st : List Value) (h : zH) {F : zF} (hz : zs_jst pc L st h = some F) : h.1 ≤ F.2.2.2.1 ∧ h.2.1 ≤ F.2.2.2.2.1 := by
  unfold zs_jst at hz
  repeat' split at hz
  all_goals first
    | (cases hz; done)
    | (cases hz; exact ⟨Nat.le_refl _, Nat.le_refl _⟩)
    | (cases hz; exact ⟨Nat.le_succ _, Nat.le_add_right _ _⟩)
    | exact zm_zgo _ _ _ _ _ hz
theorem zm_zs_rst (pc : Nat) (L : zL) (st : List Value) (h : zH) {F : zF} (hz : zs_rst pc L st h = some F) : h.1 ≤ F.2.2.2.1 ∧ h.2.1 ≤ F.2.2.2.2.1 := by
  unfold zs_rst at hz
  repeat' split at hz
  all_goals first
    | (cases hz; done)
    | (cases hz; exact ⟨Nat.le_refl _, Nat.le_refl _⟩)
    | (cases hz; exact ⟨Nat.le_succ _, Nat.le_add_right _ _⟩)
    | exact zm_zgo _ _ _ _ _ hz
theorem zm_zs_len (pc : Nat) (X : zX) (L : zL) (st : List Value) (h : zH) {F : zF} (hz : zs_len pc X L st h = some F) : h.1 ≤ F.2.2.2.1 ∧ h.2.1 ≤ F.2.2.2.2.1 := by
  unfold zs_len at hz
  repeat' split at hz
  all_goals first
    | (cases hz; done)
    | (cases hz; exact ⟨Nat.le_refl _, Nat.le_refl _⟩)
    | (cases hz; exact ⟨Nat.le_succ _, Nat.le_add_right _ _⟩)
    | exact zm_zgo _ _ _ _ _ hz
theorem zm_zs_newa (pc : Nat) (t : Nat) (q : Nat → vp_A) (L : zL) (st : List Value) (h : zH) {F : zF} (hz : zs_newa pc t q L st h = some F) : h.1 ≤ F.2.2.2.1 ∧ h.2.1 ≤ F.2.2.2.2.1 := by
  unfold zs_newa at hz
  repeat' split at hz
  all_goals first
    | (cases hz; done)
    | (cases hz; exact ⟨Nat.le_refl _, Nat.le_refl _⟩)
    | (cases hz; exact ⟨Nat.le_succ _, Nat.le_add_right _ _⟩)
    | exact zm_zgo _ _ _ _ _ hz
theorem zm_zs_anew (pc o idx : Nat) (L : zL) (st : List Value) (h : zH) {F : zF} (hz : zs_anew pc o idx L st h = some F) : h.1 ≤ F.2.2.2.1 ∧ h.2.1 ≤ F.2.2.2.2.1 := by
  unfold zs_anew at hz
  repeat' split at hz
  all_goals first
    | (cases hz; done)
    | (cases hz; exact ⟨Nat.le_refl _, Nat.le_refl _⟩)
    | (cases hz; exact ⟨Nat.le_succ _, Nat.le_add_right _ _⟩)
    | exact zm_zgo _ _ _ _ _ hz
theorem zm_zs_new (pc o idx : Nat) (L : zL) (st : List Value) (h : zH) {F : zF} (hz : zs_new pc o idx L st h = some F) : h.1 ≤ F.2.2.2.1 ∧ h.2.1 ≤ F.2.2.2.2.1 := by
  unfold zs_new at hz
  repeat' split at hz
  all_goals first
    | (cases hz; done)
    | (cases hz; exact ⟨Nat.le_refl _, Nat.le_refl _⟩)
    | (cases hz; exact ⟨Nat.le_succ _, Nat.le_add_right _ _⟩)
    | exact zm_zgo _ _ _ _ _ hz
theorem zstep_mono {X : zX} {ini : Bool} {o pc : Nat} {L : zL} {st : List Value} {h : zH} {i : Jvm.ClassFile.Instr} {F : zF} (hs : zstep X ini o pc L st h i = some F) : h.1 ≤ F.2.2.2.1 ∧ h.2.1 ≤ F.2.2.2.2.1 := by
  cases i
  case iconst n => exact ⟨Nat.le_of_eq (congrArg (fun q : zF => q.2.2.2.1) (Option.some.inj hs)), Nat.le_of_eq (congrArg (fun q : zF => q.2.2.2.2.1) (Option.some.inj hs))⟩
  case bipush n => exact ⟨Nat.le_of_eq (congrArg (fun q : zF => q.2.2.2.1) (Option.some.inj hs)), Nat.le_of_eq (congrArg (fun q : zF => q.2.2.2.2.1) (Option.some.inj hs))⟩
  case sipush n => exact ⟨Nat.le_of_eq (congrArg (fun q : zF => q.2.2.2.1) (Option.some.inj hs)), Nat.le_of_eq (congrArg (fun q : zF => q.2.2.2.2.1) (Option.some.inj hs))⟩
  case lconst n => exact ⟨Nat.le_of_eq (congrArg (fun q : zF => q.2.2.2.1) (Option.some.inj hs)), Nat.le_of_eq (congrArg (fun q : zF => q.2.2.2.2.1) (Option.some.inj hs))⟩
  case aconst_null => exact ⟨Nat.le_of_eq (congrArg (fun q : zF => q.2.2.2.1) (Option.some.inj hs)), Nat.le_of_eq (congrArg (fun q : zF => q.2.2.2.2.1) (Option.some.inj hs))⟩
  case ldc i => exact zm_zs_ldc _ _ _ _ _ _ hs
  case ldc2_w i => exact zm_zs_ldc2 _ _ _ _ _ _ hs
  case iload_n k => exact zm_zs_il _ _ _ _ _ _ hs
  case iload k => exact zm_zs_il _ _ _ _ _ _ hs
  case lload_n k => exact zm_zs_jl _ _ _ _ _ _ hs
  case lload k => exact zm_zs_jl _ _ _ _ _ _ hs
  case aload_n k => exact zm_zs_al _ _ _ _ _ _ hs
  case aload k => exact zm_zs_al _ _ _ _ _ _ hs
  case istore_n k => exact zm_zs_is _ _ _ _ _ _ hs
  case istore k => exact zm_zs_is _ _ _ _ _ _ hs
  case lstore_n k => exact zm_zs_js _ _ _ _ _ _ hs
  case lstore k => exact zm_zs_js _ _ _ _ _ _ hs
  case astore_n k => exact zm_zs_as _ _ _ _ _ _ hs
  case astore k => exact zm_zs_as _ _ _ _ _ _ hs
  case iinc i k => exact zm_zs_inc _ _ _ _ _ _ hs
  case iadd => exact zm_zs_ii _ _ _ _ _ hs
  case isub => exact zm_zs_ii _ _ _ _ _ hs
  case imul => exact zm_zs_ii _ _ _ _ _ hs
  case iand => exact zm_zs_ii _ _ _ _ _ hs
  case ishr => exact zm_zs_ii _ _ _ _ _ hs
  case idiv => exact zm_zs_dv _ _ _ _ _ hs
  case irem => exact zm_zs_dv _ _ _ _ _ hs
  case ladd => exact zm_zs_jj _ _ _ _ _ hs
  case lmul => exact zm_zs_jj _ _ _ _ _ hs
  case land => exact zm_zs_jj _ _ _ _ _ hs
  case lor => exact zm_zs_jj _ _ _ _ _ hs
  case lcmp => exact zm_zs_jj _ _ _ _ _ hs
  case lshl => exact zm_zs_ji _ _ _ _ _ hs
  case lushr => exact zm_zs_ji _ _ _ _ _ hs
  case i2l => exact zm_zs_i1 _ _ _ _ _ hs
  case i2c => exact zm_zs_i1 _ _ _ _ _ hs
  case l2i => exact zm_zs_j1 _ _ _ _ _ hs
  case ifCond cd off =>
    cases cd
    case eq => exact zm_zs_if _ _ _ _ _ _ hs
    case ne => exact zm_zs_if _ _ _ _ _ _ hs
    case lt => exact zm_zs_if _ _ _ _ _ _ hs
    case ge => exact zm_zs_if _ _ _ _ _ _ hs
    case gt => exact zm_zs_if _ _ _ _ _ _ hs
    case le => exact zm_zs_if _ _ _ _ _ _ hs
  case if_icmp cd off =>
    cases cd
    case eq => exact zm_zs_ic _ _ _ _ _ _ hs
    case ne => exact zm_zs_ic _ _ _ _ _ _ hs
    case lt => exact zm_zs_ic _ _ _ _ _ _ hs
    case ge => exact zm_zs_ic _ _ _ _ _ _ hs
    case gt => exact zm_zs_ic _ _ _ _ _ _ hs
    case le => exact zm_zs_ic _ _ _ _ _ _ hs
  case ifnull off => exact zm_zs_nu _ _ _ _ _ hs
  case ifnonnull off => exact zm_zs_nn _ _ _ _ _ hs
  case goto off => exact zm_zgo _ _ _ _ _ hs
  case tableswitch d lo hi offs => exact zm_zs_tab _ _ _ _ _ _ _ _ hs
  case dup => exact zm_zs_dup _ _ _ _ hs
  case dup2 => exact zm_zs_dup2 _ _ _ _ hs
  case pop => exact zm_zs_pop _ _ _ _ hs
  case getfield i => exact zm_zs_getf _ _ _ _ _ _ hs
  case putfield i => exact zm_zs_putf _ _ _ _ _ _ _ hs
  case getstatic i => exact zm_zs_gets _ _ _ _ _ _ _ hs
  case iaload => exact zm_zs_ald _ _ _ _ _ _ hs
  case caload => exact zm_zs_ald _ _ _ _ _ _ hs
  case baload => exact zm_zs_bld _ _ _ _ _ hs
  case laload => exact zm_zs_jld _ _ _ _ hs
  case aaload => exact zm_zs_rld _ _ _ _ _ hs
  case iastore => exact zm_zs_ast _ _ _ _ _ _ hs
  case castore => exact zm_zs_ast _ _ _ _ _ _ hs
  case bastore => exact zm_zs_ast _ _ _ _ _ _ hs
  case lastore => exact zm_zs_jst _ _ _ _ hs
  case aastore => exact zm_zs_rst _ _ _ _ hs
  case arraylength => exact zm_zs_len _ _ _ _ _ hs
  case newarray cd =>
    cases cd
    case int => exact zm_zs_newa _ _ _ _ _ _ (show zs_newa pc 0 (fun n => (n, .inl (fun _ => 0))) L st h = some F from hs)
    case char => exact zm_zs_newa _ _ _ _ _ _ (show zs_newa pc 1 (fun n => (n, .inl (fun _ => 0))) L st h = some F from hs)
    case long => exact zm_zs_newa _ _ _ _ _ _ (show zs_newa pc 2 (fun n => (n, .inr (.inl (fun _ => 0)))) L st h = some F from hs)
    case boolean => exact zm_zs_newa _ _ _ _ _ _ (show zs_newa pc 3 (fun n => (n, .inl (fun _ => 0))) L st h = some F from hs)
    all_goals exact absurd (show (none : Option zF) = some F from hs) (fun q => by cases q)
  case anewarray i => exact zm_zs_anew _ _ _ _ _ _ hs
  case new i => exact zm_zs_new _ _ _ _ _ _ hs
  all_goals exact absurd (show (none : Option zF) = some F from hs) (fun q => by cases q)
theorem z_plain {l : Launch} {D : va_G} {cA : Nat → ClassId} {ad : Nat → Nat} {base : Nat} {X : zX} {d j pc : Nat} {L : zL} {st : List Value} {h : zH} {v : Option Value} {h' : zH} {i : Jvm.ClassFile.Instr} {F : zF} (hi : zins j pc = some i) (hs : zstep X (zini j) (zown j) pc L st h i = some F) (hk0 : zS l D cA ad base X d j F.1 F.2.1 F.2.2.1 F.2.2.2 v h') : zS l D cA ad base X d j pc L st h v h' := by
  have hm := zstep_mono hs
  refine ⟨⟨Nat.le_trans hm.1 hk0.1.1, Nat.le_trans hm.2 hk0.1.2⟩, ?_⟩
  intro p e R s m args below meth c Q c0 s0 hC hf hlo hRc0 hRs0 hR
  have hk : zGo p l e R s m args below meth c Q D classes cA ad base (zmaxL j) c0 s0 F := hk0.2 p e R s m args below meth c Q c0 s0 hC hf hlo hRc0 hRs0 hR
  obtain ⟨hx, hb, hml, hown, hcore, hname, hE⟩ := hC
  have hRc : F.2.2.2.1 ≤ c0 + R.cells := Nat.le_trans hk0.1.1 hRc0
  have hRs : F.2.2.2.2.1 ≤ s0 + R.slots := Nat.le_trans hk0.1.2 hRs0
  have hini : zini j = true → meth.name = "<init>" := fun q => by rw [hname]; exact zini_ok q
  cases i
  case iconst n => exact zo_iconst hx hb (zins_dec hi (show (1 : Nat) ≠ 0 by decide)) hs hk
  case bipush n => exact zo_bipush hx hb (zins_dec hi (show (2 : Nat) ≠ 0 by decide)) hs hk
  case sipush n => exact zo_sipush hx hb (zins_dec hi (show (3 : Nat) ≠ 0 by decide)) hs hk
  case lconst n => exact zo_lconst hx hb (zins_dec hi (show (1 : Nat) ≠ 0 by decide)) hs hk
  case aconst_null => exact zo_anull hx hb (zins_dec hi (show (1 : Nat) ≠ 0 by decide)) hs hk
  case ldc i => exact zo_ldc hx hb hown (fun v hv => zld_ok hcore hE hv) (zins_dec hi (show (2 : Nat) ≠ 0 by decide)) hs hk
  case ldc2_w i => exact zo_ldc2 hx hb hown (fun v hv => zl2_ok hcore hv) (zins_dec hi (show (3 : Nat) ≠ 0 by decide)) hs hk
  case iload_n k => exact zo_iload_n hx hb (zins_dec hi (show (1 : Nat) ≠ 0 by decide)) hs hk
  case iload k => exact zo_iload hx hb (zins_dec hi (show (2 : Nat) ≠ 0 by decide)) hs hk
  case lload_n k => exact zo_lload_n hx hb (zins_dec hi (show (1 : Nat) ≠ 0 by decide)) hs hk
  case lload k => exact zo_lload hx hb (zins_dec hi (show (2 : Nat) ≠ 0 by decide)) hs hk
  case aload_n k => exact zo_aload_n hx hb (zins_dec hi (show (1 : Nat) ≠ 0 by decide)) hs hk
  case aload k => exact zo_aload hx hb (zins_dec hi (show (2 : Nat) ≠ 0 by decide)) hs hk
  case istore_n k => exact zo_istore_n hx hb (zins_dec hi (show (1 : Nat) ≠ 0 by decide)) hs hk
  case istore k => exact zo_istore hx hb (zins_dec hi (show (2 : Nat) ≠ 0 by decide)) hs hk
  case lstore_n k => exact zo_lstore_n hx hb (zins_dec hi (show (1 : Nat) ≠ 0 by decide)) hs hk
  case lstore k => exact zo_lstore hx hb (zins_dec hi (show (2 : Nat) ≠ 0 by decide)) hs hk
  case astore_n k => exact zo_astore_n hx hb (zins_dec hi (show (1 : Nat) ≠ 0 by decide)) hs hk
  case astore k => exact zo_astore hx hb (zins_dec hi (show (2 : Nat) ≠ 0 by decide)) hs hk
  case iinc i k => exact zo_iinc hx hb (zins_dec hi (show (3 : Nat) ≠ 0 by decide)) hs hk
  case iadd => exact zo_iadd hx hb (zins_dec hi (show (1 : Nat) ≠ 0 by decide)) hs hk
  case isub => exact zo_isub hx hb (zins_dec hi (show (1 : Nat) ≠ 0 by decide)) hs hk
  case imul => exact zo_imul hx hb (zins_dec hi (show (1 : Nat) ≠ 0 by decide)) hs hk
  case iand => exact zo_iand hx hb (zins_dec hi (show (1 : Nat) ≠ 0 by decide)) hs hk
  case ishr => exact zo_ishr hx hb (zins_dec hi (show (1 : Nat) ≠ 0 by decide)) hs hk
  case idiv => exact zo_idiv hx hb (zins_dec hi (show (1 : Nat) ≠ 0 by decide)) hs hk
  case irem => exact zo_irem hx hb (zins_dec hi (show (1 : Nat) ≠ 0 by decide)) hs hk
  case ladd => exact zo_ladd hx hb (zins_dec hi (show (1 : Nat) ≠ 0 by decide)) hs hk
  case lmul => exact zo_lmul hx hb (zins_dec hi (show (1 : Nat) ≠ 0 by decide)) hs hk
  case land => exact zo_land hx hb (zins_dec hi (show (1 : Nat) ≠ 0 by decide)) hs hk
  case lor => exact zo_lor hx hb (zins_dec hi (show (1 : Nat) ≠ 0 by decide)) hs hk
  case lcmp => exact zo_lcmp hx hb (zins_dec hi (show (1 : Nat) ≠ 0 by decide)) hs hk
  case lshl => exact zo_lshl hx hb (zins_dec hi (show (1 : Nat) ≠ 0 by decide)) hs hk
  case lushr => exact zo_lushr hx hb (zins_dec hi (show (1 : Nat) ≠ 0 by decide)) hs hk
  case i2l => exact zo_i2l hx hb (zins_dec hi (show (1 : Nat) ≠ 0 by decide)) hs hk
  case i2c => exact zo_i2c hx hb (zins_dec hi (show (1 : Nat) ≠ 0 by decide)) hs hk
  case l2i => exact zo_l2i hx hb (zins_dec hi (show (1 : Nat) ≠ 0 by decide)) hs hk
  case ifCond cd off =>
    cases cd
    case eq => exact zo_if_eq hx hb (zins_dec hi (show (3 : Nat) ≠ 0 by decide)) hs hk
    case ne => exact zo_if_ne hx hb (zins_dec hi (show (3 : Nat) ≠ 0 by decide)) hs hk
    case lt => exact zo_if_lt hx hb (zins_dec hi (show (3 : Nat) ≠ 0 by decide)) hs hk
    case ge => exact zo_if_ge hx hb (zins_dec hi (show (3 : Nat) ≠ 0 by decide)) hs hk
    case gt => exact zo_if_gt hx hb (zins_dec hi (show (3 : Nat) ≠ 0 by decide)) hs hk
    case le => exact zo_if_le hx hb (zins_dec hi (show (3 : Nat) ≠ 0 by decide)) hs hk
  case if_icmp cd off =>
    cases cd
    case eq => exact zo_icmp_eq hx hb (zins_dec hi (show (3 : Nat) ≠ 0 by decide)) hs hk
    case ne => exact zo_icmp_ne hx hb (zins_dec hi (show (3 : Nat) ≠ 0 by decide)) hs hk
    case lt => exact zo_icmp_lt hx hb (zins_dec hi (show (3 : Nat) ≠ 0 by decide)) hs hk
    case ge => exact zo_icmp_ge hx hb (zins_dec hi (show (3 : Nat) ≠ 0 by decide)) hs hk
    case gt => exact zo_icmp_gt hx hb (zins_dec hi (show (3 : Nat) ≠ 0 by decide)) hs hk
    case le => exact zo_icmp_le hx hb (zins_dec hi (show (3 : Nat) ≠ 0 by decide)) hs hk
  case ifnull off => exact zo_ifnull hx hb (zins_dec hi (show (3 : Nat) ≠ 0 by decide)) hs hk
  case ifnonnull off => exact zo_ifnonnull hx hb (zins_dec hi (show (3 : Nat) ≠ 0 by decide)) hs hk
  case goto off => exact zo_goto hx hb (zins_dec hi (show (3 : Nat) ≠ 0 by decide)) hs hk
  case tableswitch d lo hi offs => exact (by obtain ⟨len, hd, -⟩ := zins_any hi; exact zo_tableswitch hx hb hd hs hk)
  case dup => exact zo_dup hx hb (zins_dec hi (show (1 : Nat) ≠ 0 by decide)) hs hk
  case dup2 => exact zo_dup2 hx hb (zins_dec hi (show (1 : Nat) ≠ 0 by decide)) hs hk
  case pop => exact zo_pop hx hb (zins_dec hi (show (1 : Nat) ≠ 0 by decide)) hs hk
  case getfield i => exact zo_getf hx hb hown hcore hE.2.2.1 (fun ci k ne q => zfl_get hcore hE q) (fun a v q => zkf_ok hcore hE q) (zins_dec hi (show (3 : Nat) ≠ 0 by decide)) hs hk
  case putfield i => exact zo_putf hx hb hown hcore hE.2.2.1 (fun ci k ne q1 q2 => zfl_put hcore hE hini q1 q2) (zins_dec hi (show (3 : Nat) ≠ 0 by decide)) hs hk
  case getstatic i => exact zo_gets hx hb hown (fun q hq => zsl_ok hcore hE hq) (zins_dec hi (show (3 : Nat) ≠ 0 by decide)) hs hk
  case iaload => exact zo_iaload hx hb hE.2.2.1 hE.2.2.2.2.2.2.2.2.1 (zins_dec hi (show (1 : Nat) ≠ 0 by decide)) hs hk
  case caload => exact zo_caload hx hb hE.2.2.1 hE.2.2.2.2.2.2.2.2.1 (zins_dec hi (show (1 : Nat) ≠ 0 by decide)) hs hk
  case baload => exact zo_baload hx hb hE.2.2.1 hE.2.2.2.2.2.2.2.2.1 (zins_dec hi (show (1 : Nat) ≠ 0 by decide)) hs hk
  case laload => exact zo_laload hx hb hE.2.2.1 (zins_dec hi (show (1 : Nat) ≠ 0 by decide)) hs hk
  case aaload => exact zo_aaload hx hb hE.2.2.1 hE.2.2.2.2.2.2.2.2.1 (zins_dec hi (show (1 : Nat) ≠ 0 by decide)) hs hk
  case iastore => exact zo_iastore hx hb hE.2.2.1 (zins_dec hi (show (1 : Nat) ≠ 0 by decide)) hs hk
  case castore => exact zo_castore hx hb hE.2.2.1 (zins_dec hi (show (1 : Nat) ≠ 0 by decide)) hs hk
  case bastore => exact zo_bastore hx hb hE.2.2.1 (zins_dec hi (show (1 : Nat) ≠ 0 by decide)) hs hk
  case lastore => exact zo_lastore hx hb hE.2.2.1 (zins_dec hi (show (1 : Nat) ≠ 0 by decide)) hs hk
  case aastore => exact zo_aastore hx hb hE.2.2.1 rfl rfl (zins_dec hi (show (1 : Nat) ≠ 0 by decide)) hs hk
  case arraylength => exact zo_len hx hb hE.2.2.1 hE.2.2.2.2.2.2.2.2.1 (zins_dec hi (show (1 : Nat) ≠ 0 by decide)) hs hk
  case newarray cd =>
    cases cd
    case int => exact zo_newa_int hx hb hE.2.2.1 hE.2.2.2.1 (hcore _ zarr_int) hRc hRs (zins_dec hi (show (2 : Nat) ≠ 0 by decide)) (show zs_newa pc 0 (fun n => (n, .inl (fun _ => 0))) L st h = some F from hs) hk
    case char => exact zo_newa_char hx hb hE.2.2.1 hE.2.2.2.1 (hcore _ zarr_char) hRc hRs (zins_dec hi (show (2 : Nat) ≠ 0 by decide)) (show zs_newa pc 1 (fun n => (n, .inl (fun _ => 0))) L st h = some F from hs) hk
    case long => exact zo_newa_long hx hb hE.2.2.1 hE.2.2.2.1 (hcore _ zarr_long) hRc hRs (zins_dec hi (show (2 : Nat) ≠ 0 by decide)) (show zs_newa pc 2 (fun n => (n, .inr (.inl (fun _ => 0)))) L st h = some F from hs) hk
    case boolean => exact zo_newa_boolean hx hb hE.2.2.1 hE.2.2.2.1 (hcore _ zarr_boolean) hRc hRs (zins_dec hi (show (2 : Nat) ≠ 0 by decide)) (show zs_newa pc 3 (fun n => (n, .inl (fun _ => 0))) L st h = some F from hs) hk
    all_goals exact absurd (show (none : Option zF) = some F from hs) (fun q => by cases q)
  case anewarray i => exact zo_anew hx hb hown hE.2.2.1 hE.2.2.2.1 (fun q => zal_ok hcore hE q) hRc hRs (zins_dec hi (show (3 : Nat) ≠ 0 by decide)) hs hk
  case new i => exact zo_new hx hb hown hcore hE.2.2.1 hE.2.2.2.1 (fun ci q => zcl_ok hcore q) hRc hRs (zins_dec hi (show (3 : Nat) ≠ 0 by decide)) hs hk
  all_goals exact absurd (show (none : Option zF) = some F from hs) (fun q => by cases q)
end
section
/-! Enum.ordinal(): its class's initialisation is nowhere said, so it is walked where it is called, not taken by a contract -/
abbrev yOrd : MethodName := ⟨"java/lang/Enum", "ordinal", "()I"⟩
section ZORD
variable {p : Program} {l : Launch} {e : Env} {R : Room} {s : State} {m : MethodId} {args : Array Value} {below : List Frame} {meth : Method} {c : Code} {H : Heap} {locs : List Loc} {cells slots : Nat} {Q : State → Prop}
theorem d_ord_0 : decode prog_15_method_2_code 0 = .ok (.aload_n 0, 1) := by decide +kernel
theorem d_ord_1 : decode prog_15_method_2_code 1 = .ok (.getfield 7, 3) := by decide +kernel
theorem d_ord_4 : decode prog_15_method_2_code 4 = .ok (.ireturn, 1) := by decide +kernel
theorem z_ordBack {q : Nat} {v : Int32} {A : Nat → Prop} (hx : p.tables.exec = Jvm.exec)
    (w4 : (Cond.instanceMethod yOrd).before args s = true) (w5 : (Cond.code yOrd prog_15_method_2_code 1 (some .int)).before args s = true) (w6 : (Cond.fieldLink "java/lang/Enum" 7 "java/lang/Enum" "ordinal" "I").before args s = true)
    (hF : va_OF "java/lang/Enum" "ordinal" "I" (.int v) q A s H) (hfr : 1 ≤ R.frames) (hlo : 20 ≤ R.locals) :
    Back l R p e below s args yOrd 3 8 (fun A a => A.U.heap = H ∧ a = #[.ref q] ∧ A.locs = locs ∧ A.cells = cells ∧ A.slots = slots) (fun _ _ v' B => v' = some (.int v) ∧ B.U.heap = H ∧ B.locs = locs ∧ B.cells = cells ∧ B.slots = slots) := by
  intro m' meth' c' A g ig mk a X hg hsize hdg hWt hn hp
  obtain ⟨U, Ls, c0, s0⟩ := A
  dsimp only [Pt.U, Pt.locs, Pt.cells, Pt.slots] at hp X hn ⊢
  obtain ⟨hH, rfl, rfl, rfl, rfl⟩ := hp
  have h : At U g.method c' below := by rw [hg]; exact X.here
  have hcodeU : (Cond.code yOrd prog_15_method_2_code 1 (some .int)).before #[.ref q] U = true := word_at X.warmed (Or.inl rfl) w5
  obtain ⟨methY, cY, hmY, hcY, hbY, hlY, hrY, hlkY, -, -⟩ := Cond.code_spec hn hcodeU
  obtain ⟨mk2, methM, hnamed, hmethM, -, -⟩ := Cond.instanceMethod_spec w4
  have hmk : mk2 = mk := Option.some.inj ((X.named hnamed).symm.trans hn)
  subst hmk
  have hEnum : s.vm.findClass "java/lang/Enum" = some mk2.cls := findClass_of_methodNamed hnamed
  have hplain : U.plainMethod mk2 := State.plainMethod.of_named (x := yOrd) (by decide +kernel) hn hmY
  have hroom := X.notFull (g := g) hsize (vars := cY.maxLocals) hfr (by rw [hlY]; omega)
  rw [doInvoke_enter h.top [] hmY hcY hlkY hroom]
  have hA1 : At ((U.setTop g).pushFrame (.java (entryFrame mk2 #[.ref q] cY.maxLocals))) mk2 cY below := At.enter h #[.ref q] hmY hcY hplain
  have hfr1 := frames_entered (g := g) h.top (.java (entryFrame mk2 #[.ref q] cY.maxLocals))
  rw [hlY] at hA1 hfr1 ⊢
  have he : entryFrame mk2 #[Value.ref q] 1 = F0 mk2 0 #[.val (.ref q)] [] := by
    have := lg_entry_eq mk2 [Value.ref q] 1
    exact this
  rw [he] at hA1 hfr1 ⊢
  obtain ⟨mid, hmid⟩ := h.above
  generalize hS1 : (U.setTop g).pushFrame (.java (F0 mk2 0 #[.val (.ref q)] [])) = S1 at hA1 hfr1 ⊢
  have hS1vm : S1.vm = U.vm := by rw [← hS1]; rfl
  have hS1h : S1.heap = H := by rw [← hS1]; exact hH
  have hpl : e.platform.magicAccessors = ({} : Platform).magicAccessors := by rw [X.admits.platform]
  obtain ⟨ci', cfl, k', i', f', hi', hlinks, hright⟩ := Cond.fieldLink_spec hEnum w6 e.platform hpl
  obtain ⟨cf, kf, fi, f, cell, q1, q2, q3, q4, q5, q6⟩ := hF
  cases q1.symm.trans hi'
  obtain ⟨hk, hf⟩ := State.fieldFound?_spec hi'
  obtain ⟨vm', hW', st2⟩ := Steps.getfieldCold (tb := p.tables) (e := e) (s₀ := s) (U := S1) (f := F0 mk2 1 #[.val (.ref q)] [.ref q]) (rest := []) (a := q) (cell := cell) (v := .int v) hA1 hx (by rw [hbY]; exact d_ord_1) (by rw [hS1vm]; exact X.warmed) hlinks hright hk hf q2 rfl (by rw [hS1h]; exact q3) q4 q5
  refine ⟨some (.int v), ⟨U.setVm vm', Ls, c0, s0⟩, X.noted hW', ⟨rfl, hH, rfl, rfl, rfl⟩, ?_⟩
  have st1 : ∀ tg, Steps p.tables e below (S1.setTop (F0 mk2 1 #[.val (.ref q)] [.ref q])) tg → Steps p.tables e below (S1.setTop (F0 mk2 0 #[.val (.ref q)] [])) tg := by
    intro tg ht
    jvm_step hA1 [hA1.top, hx, hbY, d_ord_0, Value.isRef]
    exact ht
  refine st1 _ (st2 _ ?_)
  have hal : U.vm.Alike vm' := X.warmed.alike.symm.trans hW'.alike
  have hA2 : At (S1.setVm vm') mk2 cY below := hA1.setVm (by rw [hS1vm]; exact hal)
  have hm2 : (S1.setVm vm').vm.method? mk2 = some methY := by
    show vm'.method? mk2 = some methY
    rw [hal.method?]
    exact hmY
  have hcg : (S1.setVm vm').code? g.method = some c' := by
    have h1 := h.code
    rw [State.code?_eq] at h1 ⊢
    show (vm'.method? g.method).bind _ = _
    rw [hal.method?]
    exact h1
  obtain ⟨g₀, hg0⟩ := Option.isSome_iff_exists.mp h.top
  obtain ⟨r, hr⟩ := State.topJava?_eq_some.mp hg0
  have e9 : (S1.setVm vm').setFrames (.java g :: U.frames.tail) = (U.setTop g).setVm vm' := by
    rw [← hS1]
    exact congrArg (fun z : State => z.setVm vm') (setFrames_entered h.top _)
  have e10 : ∀ g' : JFrame, ((U.setTop g).setVm vm').setTop g' = (U.setVm vm').setTop g' := by
    intro g'
    have h1 : ((U.setTop g).setVm vm').frames = .java g :: r := by
      show (U.setTop g).frames = _
      exact State.frames_setTop g hr
    have h2 : (U.setVm vm').frames = .java g₀ :: r := hr
    rw [State.setTop_of_frames _ h1, State.setTop_of_frames _ h2]
    show ((U.setTop g).setFrames (.java g' :: r)).setVm vm' = (U.setFrames (.java g' :: r)).setVm vm'
    rw [State.setTop_of_frames _ hr, State.setFrames_setFrames]
  have hret : ∀ acts : List Action, (doReturn e ((S1.setVm vm').setTop (F0 mk2 4 #[.val (.ref q)] [])) acts (some (.int v))).1 = (U.setVm vm').setTop { g with pc := g.pc + 3, stack := (some (Value.int v)).toList ++ g.stack } := by
    intro acts
    have h9 := doReturn_leave (e := e) (u := S1.setVm vm') (f := F0 mk2 4 #[.val (.ref q)] []) (v := some (.int v)) acts hfr1 hm2 hlkY rfl rfl hcg hdg
    rw [h9, e9, e10]
  show Steps p.tables e below ((S1.setVm vm').setTop (F0 mk2 4 #[.val (.ref q)] [.int v])) ((U.setVm vm').setTop { g with pc := g.pc + 3, stack := (some (Value.int v)).toList ++ g.stack })
  generalize (U.setVm vm').setTop { g with pc := g.pc + 3, stack := (some (Value.int v)).toList ++ g.stack } = tgt at hret ⊢
  generalize S1.setVm vm' = T2 at hA2 hm2 hret ⊢
  jvm_step hA2 [hA2.top, hx, hbY, d_ord_4, hm2, hrY, narrow]
  (try refine ⟨rfl, ?_⟩); (try refine ⟨rfl, ?_⟩)
  first | (intro acts; rw [hret acts]) | rw [hret _]
  exact Steps.refl _
theorem z_ord {cc : ByteArray} {pc : Nat} {ls : Array Slot} {rest : List Value} (hx : p.tables.exec = Jvm.exec) (hb : c.code = cc) (hmL : c.maxLocals = ls.size) {own C : String} {idx q : Nat} {v : Int32} {A : Nat → Prop}
    (hown : s.vm.findClass own = some m.cls) (w1 : (Cond.methodLink own idx ⟨C, "ordinal", "()I"⟩).before args s = true) (w2 : (Cond.sameMethod C "java/lang/Enum" "ordinal" "()I").before args s = true) (w3 : (Cond.selects C ⟨C, "ordinal", "()I"⟩ yOrd).before args s = true)
    (w4 : (Cond.instanceMethod yOrd).before args s = true) (w5 : (Cond.code yOrd prog_15_method_2_code 1 (some .int)).before args s = true) (w6 : (Cond.fieldLink "java/lang/Enum" 7 "java/lang/Enum" "ordinal" "I").before args s = true)
    (hO : va_O C q A s s.heap) (hF : va_OF "java/lang/Enum" "ordinal" "I" (.int v) q A s s.heap) (hS : va_S A s.heap H locs) (hfr : 1 ≤ R.frames) (hlo : 20 ≤ R.locals) (hsum : (rest.map fun v => v.category).sum ≤ 8) (hd : decode cc pc = .ok (.invokevirtual idx, 3))
    (k : W p l e R s m args below meth c H locs cells slots Q (F0 m (pc + 3) ls (.int v :: rest))) : W p l e R s m args below meth c H locs cells slots Q (F0 m pc ls (.ref q :: rest)) := by
  intro T hT X
  obtain ⟨cellB, b1, b2, b3, -⟩ := hO.kept hS.2.1
  have hdecl : va_Decl s ⟨"java/lang/Enum", "ordinal", "()I"⟩ := va_Decl.of w4 w5
  have hK := z_ordBack (p := p) (l := l) (e := e) (R := R) (below := below) (locs := locs) (cells := cells) (slots := slots) hx w4 w5 w6 (hF.kept hS.2.1) hfr hlo
  obtain ⟨v', vm₁, ⟨U', l2, c2, s2⟩, hW₁, X', hpost, st⟩ := va_callVU X hx (C := C) (owner := "java/lang/Enum") (x := ⟨C, "ordinal", "()I"⟩) (y := yOrd) (bytes := prog_15_method_2_code) (maxL := 1) (ret := some .int) hown w1 w2 hdecl ⟨by decide, by decide⟩ w3 w4 w5 hK (b := q) (by rw [hT]; exact b1) b2 b3 (g := F0 m pc ls (.ref q :: rest)) rfl hmL.symm (argsL := []) (rest := rest)
    (fun sig hs => by
      have h0 : parseMethodDescriptor "()I" = some { parameters := [], returnType := some .int } := by decide +kernel
      rw [show (⟨C, "ordinal", "()I"⟩ : MethodName).desc = "()I" from rfl, h0] at hs
      rw [← Option.some.inj hs]; rfl)
    rfl (by show 2 * 0 + _ ≤ 8; omega) (by rw [hb]; exact hd) (fun vm₂ hW₂ => ⟨hT, rfl, rfl, rfl, rfl⟩)
  dsimp only [Pt.U, Pt.locs, Pt.cells, Pt.slots] at X' hpost st
  obtain ⟨rfl, e1, rfl, rfl, rfl⟩ := hpost
  obtain ⟨t, a1, b1'⟩ := k U' e1 X'
  exact ⟨t, st t a1, b1'⟩
end ZORD
end
section
/-! CALLS, and the soundness of runs -/
theorem zret_ok {t : Option FieldType} {i : Jvm.ClassFile.Instr} {st : List Value} {v : Option Value} (h : zret t i st = some v) : st = v.toList ∧ zlen i = 1 := by
  unfold zret at h
  split at h
  · split at h
    · split at h
      · cases h; exact ⟨rfl, rfl⟩
      · cases h
    · cases h
  · split at h
    · split at h
      · cases h; exact ⟨rfl, rfl⟩
      · cases h
    · cases h
  · split at h
    · split at h
      · cases h; exact ⟨rfl, rfl⟩
      · cases h
    · split at h
      · cases h; exact ⟨rfl, rfl⟩
      · cases h
    · cases h
  · split at h
    · split at h
      · cases h; exact ⟨rfl, rfl⟩
      · cases h
    · cases h
  · cases h
theorem z_spec {l : Launch} {D : va_G} {cA : Nat → ClassId} {ad : Nat → Nat} {base : Nat} {X : zX} {d j pc : Nat} {L : zL} {st : List Value} {h : zH} {v : Option Value} {h' : zH} {i : Jvm.ClassFile.Instr} {F : zF} (hi : zins j pc = some i) (hs : zspec d (zown j) pc L st h i = some F) (hk0 : zS l D cA ad base X d j F.1 F.2.1 F.2.2.1 F.2.2.2 v h') : zS l D cA ad base X d j pc L st h v h' := by
  unfold zspec at hs
  split at hs
  · rename_i idx
    split at hs
    · rename_i x1 x2 hml
      split at hs
      · rename_i a r
        split at hs
        · rename_i hc
          cases hs
          refine ⟨hk0.1, ?_⟩
          intro p e R s m args below meth c Q c0 s0 hC hf hlo hRc hRs hR
          have hk := hk0.2 p e R s m args below meth c Q c0 s0 hC hf hlo hRc hRs hR
          obtain ⟨hx, hb, hmL, hown, hcore, hname, hE⟩ := hC
          intro ls H locs cells slots g1 g2 g3 g4 g5
          obtain ⟨w1, w2, w3⟩ := zml_obj hml
          have hsum : ((r.map (zv ad)).map fun v => v.category).sum ≤ 8 := by rw [zcat_map]; exact hc.2
          exact W.objInit hx hb hown (hcore _ w1) (hcore _ w2) (hcore _ w3) rfl (by rw [hmL]; exact g1.2.1) rfl (zins_dec hi (show (3 : Nat) ≠ 0 by decide)) (by omega) (by show 2 * 0 + _ + 12 ≤ _; omega) (hk ls H locs cells slots g1 g2 g3 g4 g5)
        · cases hs
      · cases hs
    · cases hs
  · rename_i idx
    split at hs
    · rename_i x1 x2 hml
      split at hs
      · rename_i y x r
        split at hs
        · rename_i hc
          cases hs
          refine ⟨hk0.1, ?_⟩
          intro p e R s m args below meth c Q c0 s0 hC hf hlo hRc hRs hR
          have hk := hk0.2 p e R s m args below meth c Q c0 s0 hC hf hlo hRc hRs hR
          obtain ⟨hx, hb, hmL, hown, hcore, hname, hE⟩ := hC
          intro ls H locs cells slots g1 g2 g3 g4 g5
          obtain ⟨w1, w2, w3, w4⟩ := zml_max hml
          have hsum : ((r.map (zv ad)).map fun v => v.category).sum ≤ 8 := by rw [zcat_map]; exact hc.2
          have m1 : h.1 ≤ h'.1 := hk0.1.1
          have m2 : h.2.1 ≤ h'.2.1 := hk0.1.2
          have g4' : cells + c0 = h.1 := g4
          have g5' : slots + s0 = h.2.1 := g5
          exact va_mmax hx hb (by rw [hmL]; exact g1.2.1.symm) hown (hcore _ w1) (hcore _ w2) (hcore _ w3) (hcore _ w4) (by omega) (by omega) (by omega) (by omega) (zins_dec hi (show (3 : Nat) ≠ 0 by decide)) (hk ls H locs cells slots g1 g2 g3 g4 g5)
        · cases hs
      · cases hs
    · rename_i x1 x2 hml
      split at hs
      · rename_i y x r
        split at hs
        · rename_i hc
          cases hs
          refine ⟨hk0.1, ?_⟩
          intro p e R s m args below meth c Q c0 s0 hC hf hlo hRc hRs hR
          have hk := hk0.2 p e R s m args below meth c Q c0 s0 hC hf hlo hRc hRs hR
          obtain ⟨hx, hb, hmL, hown, hcore, hname, hE⟩ := hC
          intro ls H locs cells slots g1 g2 g3 g4 g5
          obtain ⟨w1, w2, w3, w4⟩ := zml_min hml
          have hsum : ((r.map (zv ad)).map fun v => v.category).sum ≤ 8 := by rw [zcat_map]; exact hc.2
          have m1 : h.1 ≤ h'.1 := hk0.1.1
          have m2 : h.2.1 ≤ h'.2.1 := hk0.1.2
          have g4' : cells + c0 = h.1 := g4
          have g5' : slots + s0 = h.2.1 := g5
          exact va_mmin hx hb (by rw [hmL]; exact g1.2.1.symm) hown (hcore _ w1) (hcore _ w2) (hcore _ w3) (hcore _ w4) (by omega) (by omega) (by omega) (by omega) (zins_dec hi (show (3 : Nat) ≠ 0 by decide)) (hk ls H locs cells slots g1 g2 g3 g4 g5)
        · cases hs
      · cases hs
    · cases hs
  · rename_i idx
    split at hs
    · rename_i x1 x2 hml
      split at hs
      · rename_i b r
        split at hs
        · rename_i v0 hv0
          split at hs
          · rename_i hc
            cases hs
            refine ⟨hk0.1, ?_⟩
            intro p e R s m args below meth c Q c0 s0 hC hf hlo hRc hRs hR
            have hk := hk0.2 p e R s m args below meth c Q c0 s0 hC hf hlo hRc hRs hR
            obtain ⟨hx, hb, hmL, hown, hcore, hname, hE⟩ := hC
            intro ls H locs cells slots g1 g2 g3 g4 g5
            have hsum : ((r.map (zv ad)).map fun v => v.category).sum ≤ 8 := by rw [zcat_map]; exact hc.2.1
            have hO : va_O "BedMessages$Kind" (ad b) (zA base) s s.heap := hE.2.2.2.2.2.2.2.1 (b, 14) (zlook_mem hc.2.2)
            have hF : va_OF "java/lang/Enum" "ordinal" "I" (.int v0) (ad b) (zA base) s s.heap := hE.2.2.2.2.2.2.1 (b, 4, .int v0) (zcf_mem hv0)
            exact z_ord hx hb (by rw [hmL]; exact g1.2.1.symm) hown (hcore _ (zml_ordl hml)) (hcore _ zord_2) (hcore _ zord_3) (hcore _ zord_4) (hcore _ zord_5) (hcore _ zord_6) hO hF g3 (by omega) (by omega) hsum (zins_dec hi (show (3 : Nat) ≠ 0 by decide)) (hk ls H locs cells slots g1 g2 g3 g4 g5)
          · cases hs
        · cases hs
      · cases hs
    · cases hs
  · cases hs
theorem zPc_blind {D : va_G} {cA : Nat → ClassId} {ad : Nat → Nat} {base : Nat} {X : zX} {As : List Value} {h : zH} : FrameBlind (zPc D cA ad base X As h) := fun _ _ _ _ q => ⟨q.1, q.2.1, zENV.same rfl rfl q.2.2⟩
theorem z_recv {s : State} {D : va_G} {cA : Nat → ClassId} {ad : Nat → Nat} {base : Nat} {X : zX} {h : zH} {H : Heap} {locs : List Loc} {b k : Nat} (hE : zENV s D cA ad base X) (hw : zW D classes cA ad base h H) (hS : va_S (zA base) s.heap H locs) (hr : zrcv h b = some k) : ∃ cell : Cell, H[ad b]? = some cell ∧ cell.vm.isStatics = false ∧ s.vm.findClass (zRn k) = some cell.cls := by
  unfold zrcv at hr
  split at hr
  · rename_i ci fs hc
    cases hr
    have hat := (hw.2 b _ hc).2.2.2
    obtain ⟨r, h1, -⟩ := id hat
    have h2 := va_recv hE.2.2.1 (zP1 hat) h1 (q0 := 0) rfl
    rw [← zRn_cls h1]
    exact h2
  · cases hr
  · obtain ⟨cell, h1, h2, h3, -⟩ := (hE.2.2.2.2.2.2.2.1 (b, k) (zlook_mem hr)).kept hS.2.1
    exact ⟨cell, h1, h2, h3⟩
end
section
section ZRUN
variable {p : Program} {l : Launch} {e : Env} {R : Room} {s : State} {m : MethodId} {args : Array Value} {below : List Frame} {meth : Method} {c : Code} {D : va_G} {cA : Nat → ClassId} {ad : Nat → Nat} {base : Nat} {X : zX} {d j pc jj n idx : Nat} {ls : Array Slot} {H : Heap} {locs : List Loc} {cells slots : Nat} {st As rest : List Value} {h h1 : zH} {v1 : Option Value}
set_option maxHeartbeats 8000000 in
theorem z_rv (hx : p.tables.exec = Jvm.exec) (hb : c.code = zcode j) (hmL : c.maxLocals = zmaxL j) (hown : s.vm.findClass (zRn (zown j)) = some m.cls) (hcore : ∀ w ∈ zcore, w.before args s = true) (hE : zENV s D cA ad base X) (g2 : zW D classes cA ad base h H) (g3 : va_S (zA base) s.heap H locs) (hsz : ls.size = zmaxL j) (hcs : cells + (h1.1 - h.1) ≤ R.cells ∧ slots + (h1.2.1 - h.2.1) ≤ R.slots) (hf : d + 1 ≤ R.frames) (hlo : 40 * (d + 1) ≤ R.locals) (hlen : (zentl As).length ≤ zmaxL jj) (hc : zS l D cA ad base X d jj 0 (zent (zmaxL jj) As) [] h v1 h1) (hd : decode (zcode j) pc = .ok (.invokevirtual idx, 3)) (hml : zml (zown j) idx = some (0, jj, n)) (hp : zprep (0, jj, n) st h = some (As, rest)) : va_Run p l e R s m args below meth c H locs cells slots (h1.1 - h.1) (h1.2.1 - h.2.1) (F0 m pc ls (st.map (zv ad))) (rest.map (zv ad)) (zQc D cA ad base v1 h1 (As.map (zv ad)).toArray) (zA base) := by
  obtain ⟨hj, w1, w2, w3, w4, hds⟩ := zml_v hml
  have hj21 := zmaxL_le hj
  have hlo' : 8 + (zmaxL jj + 11) + 40 * d ≤ R.locals := by omega
  have pre : ∀ U : State, U.heap = H → s.WarmedH U.vm → zPc D cA ad base X As h (As.map (zv ad)).toArray U := fun U hU hW => ⟨rfl, by rw [hU]; exact g2, hE.go hW (by rw [hU]; exact g3.1) (by rw [hU]; exact g3.2.1)⟩
  have hM := z_met (l := l) hj hlen hc
  obtain ⟨b, Bs, rfl, hstk, hl, hsum, hrc⟩ := zprep_i (ad := ad) hp (Or.inl rfl)
  have hl' : (Bs.map (zv ad)).length = n := by rw [List.length_map]; exact hl
  have cw := cwV (R := R) (rm := { frames := d, cells := h1.1 - h.1, slots := h1.2.1 - h.2.1, locals := 40 * d }) (own := zRn (zown j)) (C := zRn (zown jj)) n hcore (zgoodV w1 w2 w3 w4 (zcode_in hj)) rfl rfl rfl hds ⟨hf, hlo'⟩
  exact va_runV (As := Bs.map (zv ad)) (b := ad b) ⟨hx, hb, hmL, hown, hcore⟩ hM cw ⟨zPc_blind, z_recv hE g2 g3 (hrc (Or.inl rfl)), pre⟩ rfl hl' hsz hstk (by show 2 * 0 + _ ≤ 8; rw [zcat_map]; omega) hd hcs
set_option maxHeartbeats 8000000 in
theorem z_rvn (hx : p.tables.exec = Jvm.exec) (hb : c.code = zcode j) (hmL : c.maxLocals = zmaxL j) (hown : s.vm.findClass (zRn (zown j)) = some m.cls) (hcore : ∀ w ∈ zcore, w.before args s = true) (hE : zENV s D cA ad base X) (g2 : zW D classes cA ad base h H) (g3 : va_S (zA base) s.heap H locs) (hsz : ls.size = zmaxL j) (hcs : cells + (h1.1 - h.1) ≤ R.cells ∧ slots + (h1.2.1 - h.2.1) ≤ R.slots) (hf : d + 1 ≤ R.frames) (hlo : 40 * (d + 1) ≤ R.locals) (hlen : (zentl As).length ≤ zmaxL jj) (hc : zS l D cA ad base X d jj 0 (zent (zmaxL jj) As) [] h v1 h1) (hd : decode (zcode j) pc = .ok (.invokevirtual idx, 3)) (hml : zml (zown j) idx = some (1, jj, n)) (hp : zprep (1, jj, n) st h = some (As, rest)) : va_Run p l e R s m args below meth c H locs cells slots (h1.1 - h.1) (h1.2.1 - h.2.1) (F0 m pc ls (st.map (zv ad))) (rest.map (zv ad)) (zQc D cA ad base v1 h1 (As.map (zv ad)).toArray) (zA base) := by
  obtain ⟨hj, ⟨host, w1⟩, w2, w3, w4, hds⟩ := zml_vn hml
  have hj21 := zmaxL_le hj
  have hlo' : 8 + (zmaxL jj + 11) + 40 * d ≤ R.locals := by omega
  have pre : ∀ U : State, U.heap = H → s.WarmedH U.vm → zPc D cA ad base X As h (As.map (zv ad)).toArray U := fun U hU hW => ⟨rfl, by rw [hU]; exact g2, hE.go hW (by rw [hU]; exact g3.1) (by rw [hU]; exact g3.2.1)⟩
  have hM := z_met (l := l) hj hlen hc
  obtain ⟨b, Bs, rfl, hstk, hl, hsum, hrc⟩ := zprep_i (ad := ad) hp (Or.inr (Or.inl rfl))
  have hl' : (Bs.map (zv ad)).length = n := by rw [List.length_map]; exact hl
  have cw := va_cnB (R := R) (rm := { frames := d, cells := h1.1 - h.1, slots := h1.2.1 - h.2.1, locals := 40 * d }) n hcore (zgoodW (zcode_in hj)) rfl rfl rfl (hE.2.1 _ w1) (hcore _ w4) hds ⟨hf, hlo'⟩
  exact va_runVN (As := Bs.map (zv ad)) (b := ad b) (C := zRn (zown jj)) ⟨hx, hb, hmL, hown, hcore⟩ hM ⟨cw, hcore _ w2, hcore _ w3⟩ ⟨zPc_blind, z_recv hE g2 g3 (hrc (Or.inr rfl)), pre⟩ rfl hl' hsz hstk (by show 2 * 0 + _ ≤ 8; rw [zcat_map]; omega) hd hcs
set_option maxHeartbeats 8000000 in
theorem z_rs (hx : p.tables.exec = Jvm.exec) (hb : c.code = zcode j) (hmL : c.maxLocals = zmaxL j) (hown : s.vm.findClass (zRn (zown j)) = some m.cls) (hcore : ∀ w ∈ zcore, w.before args s = true) (hE : zENV s D cA ad base X) (g2 : zW D classes cA ad base h H) (g3 : va_S (zA base) s.heap H locs) (hsz : ls.size = zmaxL j) (hcs : cells + (h1.1 - h.1) ≤ R.cells ∧ slots + (h1.2.1 - h.2.1) ≤ R.slots) (hf : d + 1 ≤ R.frames) (hlo : 40 * (d + 1) ≤ R.locals) (hlen : (zentl As).length ≤ zmaxL jj) (hc : zS l D cA ad base X d jj 0 (zent (zmaxL jj) As) [] h v1 h1) (hd : decode (zcode j) pc = .ok (.invokestatic idx, 3)) (hml : zml (zown j) idx = some (2, jj, n)) (hp : zprep (2, jj, n) st h = some (As, rest)) : va_Run p l e R s m args below meth c H locs cells slots (h1.1 - h.1) (h1.2.1 - h.2.1) (F0 m pc ls (st.map (zv ad))) (rest.map (zv ad)) (zQc D cA ad base v1 h1 (As.map (zv ad)).toArray) (zA base) := by
  obtain ⟨hj, w1, w2, w3, hds⟩ := zml_s hml
  have hj21 := zmaxL_le hj
  have hlo' : 8 + (zmaxL jj + 11) + 40 * d ≤ R.locals := by omega
  have pre : ∀ U : State, U.heap = H → s.WarmedH U.vm → zPc D cA ad base X As h (As.map (zv ad)).toArray U := fun U hU hW => ⟨rfl, by rw [hU]; exact g2, hE.go hW (by rw [hU]; exact g3.1) (by rw [hU]; exact g3.2.1)⟩
  have hM := z_met (l := l) hj hlen hc
  obtain ⟨hstk, hl, hsum⟩ := zprep_s (ad := ad) hp (Or.inl rfl)
  have hl' : (As.map (zv ad)).length = n := by rw [List.length_map]; exact hl
  have cw := va_cwS (R := R) (rm := { frames := d, cells := h1.1 - h.1, slots := h1.2.1 - h.2.1, locals := 40 * d }) (own := zRn (zown j)) n hcore (zgoodS w1 w2 w3 (zcode_in hj)) rfl rfl rfl hds ⟨hf, hlo'⟩
  exact va_runS (As := As.map (zv ad)) ⟨hx, hb, hmL, hown, hcore⟩ hM cw ⟨zPc_blind, pre⟩ rfl hl' hsz hstk (by show 2 * 0 + _ ≤ 8; rw [zcat_map]; omega) hd hcs
set_option maxHeartbeats 8000000 in
theorem z_rsn (hx : p.tables.exec = Jvm.exec) (hb : c.code = zcode j) (hmL : c.maxLocals = zmaxL j) (hown : s.vm.findClass (zRn (zown j)) = some m.cls) (hcore : ∀ w ∈ zcore, w.before args s = true) (hE : zENV s D cA ad base X) (g2 : zW D classes cA ad base h H) (g3 : va_S (zA base) s.heap H locs) (hsz : ls.size = zmaxL j) (hcs : cells + (h1.1 - h.1) ≤ R.cells ∧ slots + (h1.2.1 - h.2.1) ≤ R.slots) (hf : d + 1 ≤ R.frames) (hlo : 40 * (d + 1) ≤ R.locals) (hlen : (zentl As).length ≤ zmaxL jj) (hc : zS l D cA ad base X d jj 0 (zent (zmaxL jj) As) [] h v1 h1) (hd : decode (zcode j) pc = .ok (.invokestatic idx, 3)) (hml : zml (zown j) idx = some (3, jj, n)) (hp : zprep (3, jj, n) st h = some (As, rest)) : va_Run p l e R s m args below meth c H locs cells slots (h1.1 - h.1) (h1.2.1 - h.2.1) (F0 m pc ls (st.map (zv ad))) (rest.map (zv ad)) (zQc D cA ad base v1 h1 (As.map (zv ad)).toArray) (zA base) := by
  obtain ⟨hj, ⟨host, w1⟩, w2, w3, hds⟩ := zml_sn hml
  have hj21 := zmaxL_le hj
  have hlo' : 8 + (zmaxL jj + 11) + 40 * d ≤ R.locals := by omega
  have pre : ∀ U : State, U.heap = H → s.WarmedH U.vm → zPc D cA ad base X As h (As.map (zv ad)).toArray U := fun U hU hW => ⟨rfl, by rw [hU]; exact g2, hE.go hW (by rw [hU]; exact g3.1) (by rw [hU]; exact g3.2.1)⟩
  have hM := z_met (l := l) hj hlen hc
  obtain ⟨hstk, hl, hsum⟩ := zprep_s (ad := ad) hp (Or.inr rfl)
  have hl' : (As.map (zv ad)).length = n := by rw [List.length_map]; exact hl
  have cw := va_cnB (R := R) (rm := { frames := d, cells := h1.1 - h.1, slots := h1.2.1 - h.2.1, locals := 40 * d }) n hcore (zgoodW (zcode_in hj)) rfl rfl rfl (hE.2.1 _ w1) (hcore _ w3) hds ⟨hf, hlo'⟩
  exact va_runSN (As := As.map (zv ad)) ⟨hx, hb, hmL, hown, hcore⟩ hM ⟨cw, hcore _ w2, trivial⟩ ⟨zPc_blind, pre⟩ rfl hl' hsz hstk (by show 2 * 0 + _ ≤ 8; rw [zcat_map]; omega) hd hcs
set_option maxHeartbeats 8000000 in
theorem z_ri (hx : p.tables.exec = Jvm.exec) (hb : c.code = zcode j) (hmL : c.maxLocals = zmaxL j) (hown : s.vm.findClass (zRn (zown j)) = some m.cls) (hcore : ∀ w ∈ zcore, w.before args s = true) (hE : zENV s D cA ad base X) (g2 : zW D classes cA ad base h H) (g3 : va_S (zA base) s.heap H locs) (hsz : ls.size = zmaxL j) (hcs : cells + (h1.1 - h.1) ≤ R.cells ∧ slots + (h1.2.1 - h.2.1) ≤ R.slots) (hf : d + 1 ≤ R.frames) (hlo : 40 * (d + 1) ≤ R.locals) (hlen : (zentl As).length ≤ zmaxL jj) (hc : zS l D cA ad base X d jj 0 (zent (zmaxL jj) As) [] h v1 h1) (hd : decode (zcode j) pc = .ok (.invokespecial idx, 3)) (hml : zml (zown j) idx = some (4, jj, n)) (hp : zprep (4, jj, n) st h = some (As, rest)) : va_Run p l e R s m args below meth c H locs cells slots (h1.1 - h.1) (h1.2.1 - h.2.1) (F0 m pc ls (st.map (zv ad))) (rest.map (zv ad)) (zQc D cA ad base v1 h1 (As.map (zv ad)).toArray) (zA base) := by
  obtain ⟨hj, w1, w2, w3, hnm, hrt, hds⟩ := zml_i hml
  have hj21 := zmaxL_le hj
  have hlo' : 8 + (zmaxL jj + 11) + 40 * d ≤ R.locals := by omega
  have pre : ∀ U : State, U.heap = H → s.WarmedH U.vm → zPc D cA ad base X As h (As.map (zv ad)).toArray U := fun U hU hW => ⟨rfl, by rw [hU]; exact g2, hE.go hW (by rw [hU]; exact g3.1) (by rw [hU]; exact g3.2.1)⟩
  have hM := z_met (l := l) hj hlen hc
  obtain ⟨b, Bs, rfl, hstk, hl, hsum, hrc⟩ := zprep_i (ad := ad) hp (Or.inr (Or.inr (Or.inl rfl)))
  have hl' : (Bs.map (zv ad)).length = n := by rw [List.length_map]; exact hl
  have hw : zws jj = Cond.code (zname jj) (zcode jj) (zmaxL jj) none :: zcore := by rw [← hrt]; rfl
  have cw := cwI (R := R) (rm := { frames := d, cells := h1.1 - h.1, slots := h1.2.1 - h.2.1, locals := 40 * d }) n hcore (zgoodW (zcode_in hj)) hw rfl rfl (hcore _ w3) (hcore _ w1) (hcore _ w2) hnm hds ⟨hf, hlo'⟩
  exact va_runI (As := Bs.map (zv ad)) (b := ad b) ⟨hx, hb, hmL, hown, hcore⟩ hM cw ⟨zPc_blind, pre⟩ rfl hl' hsz hstk (by show 2 * 0 + _ ≤ 8; rw [zcat_map]; omega) hd hcs
set_option maxHeartbeats 8000000 in
theorem z_rin (hx : p.tables.exec = Jvm.exec) (hb : c.code = zcode j) (hmL : c.maxLocals = zmaxL j) (hown : s.vm.findClass (zRn (zown j)) = some m.cls) (hcore : ∀ w ∈ zcore, w.before args s = true) (hE : zENV s D cA ad base X) (g2 : zW D classes cA ad base h H) (g3 : va_S (zA base) s.heap H locs) (hsz : ls.size = zmaxL j) (hcs : cells + (h1.1 - h.1) ≤ R.cells ∧ slots + (h1.2.1 - h.2.1) ≤ R.slots) (hf : d + 1 ≤ R.frames) (hlo : 40 * (d + 1) ≤ R.locals) (hlen : (zentl As).length ≤ zmaxL jj) (hc : zS l D cA ad base X d jj 0 (zent (zmaxL jj) As) [] h v1 h1) (hd : decode (zcode j) pc = .ok (.invokespecial idx, 3)) (hml : zml (zown j) idx = some (5, jj, n)) (hp : zprep (5, jj, n) st h = some (As, rest)) : va_Run p l e R s m args below meth c H locs cells slots (h1.1 - h.1) (h1.2.1 - h.2.1) (F0 m pc ls (st.map (zv ad))) (rest.map (zv ad)) (zQc D cA ad base v1 h1 (As.map (zv ad)).toArray) (zA base) := by
  obtain ⟨hj, ⟨host, w1⟩, w2, w3, hnm, hrt, hds⟩ := zml_in hml
  have hj21 := zmaxL_le hj
  have hlo' : 8 + (zmaxL jj + 11) + 40 * d ≤ R.locals := by omega
  have pre : ∀ U : State, U.heap = H → s.WarmedH U.vm → zPc D cA ad base X As h (As.map (zv ad)).toArray U := fun U hU hW => ⟨rfl, by rw [hU]; exact g2, hE.go hW (by rw [hU]; exact g3.1) (by rw [hU]; exact g3.2.1)⟩
  have hM := z_met (l := l) hj hlen hc
  obtain ⟨b, Bs, rfl, hstk, hl, hsum, hrc⟩ := zprep_i (ad := ad) hp (Or.inr (Or.inr (Or.inr rfl)))
  have hl' : (Bs.map (zv ad)).length = n := by rw [List.length_map]; exact hl
  have hw : zws jj = Cond.code (zname jj) (zcode jj) (zmaxL jj) none :: zcore := by rw [← hrt]; rfl
  have cw := va_cnB (R := R) (rm := { frames := d, cells := h1.1 - h.1, slots := h1.2.1 - h.2.1, locals := 40 * d }) n hcore (zgoodW (zcode_in hj)) hw rfl rfl (hE.2.1 _ w1) (hcore _ w3) hds ⟨hf, hlo'⟩
  exact va_runIN (As := Bs.map (zv ad)) (b := ad b) ⟨hx, hb, hmL, hown, hcore⟩ hM ⟨cw, hnm, hcore _ w2⟩ ⟨zPc_blind, pre⟩ rfl hl' hsz hstk (by show 2 * 0 + _ ≤ 8; rw [zcat_map]; omega) hd hcs
end ZRUN
end
section
theorem z_callstep {l : Launch} {D : va_G} {cA : Nat → ClassId} {ad : Nat → Nat} {base : Nat} {X : zX} {d j pc : Nat} {L : zL} {st As rest : List Value} {h h1 : zH} {v v1 : Option Value} {h' : zH} {i : Jvm.ClassFile.Instr} {q : Nat × Nat × Nat} (hi : zins j pc = some i) (hq : zinv (zown j) i = some q) (hp : zprep q st h = some (As, rest)) (hc : zS l D cA ad base X d q.2.1 0 (zent (zmaxL q.2.1) As) [] h v1 h1) (hk0 : zS l D cA ad base X (d + 1) j (pc + 3) L (v1.toList ++ rest) h1 v h') : zS l D cA ad base X (d + 1) j pc L st h v h' := by
  refine ⟨⟨Nat.le_trans hc.1.1 hk0.1.1, Nat.le_trans hc.1.2 hk0.1.2⟩, ?_⟩
  intro p e R s m args below meth c Q c0 s0 hC hf hlo hRc hRs hR
  have hk := hk0.2 p e R s m args below meth c Q c0 s0 hC hf hlo hRc hRs hR
  obtain ⟨hx, hb, hmL, hown, hcore, hname, hE⟩ := hC
  intro ls H locs cells slots g1 g2 g3 g4 g5
  obtain ⟨kd, jj, n⟩ := q
  have hlen : (zentl As).length ≤ zmaxL jj := zprep_len hp
  have m1 := hc.1.1
  have m2 := hc.1.2
  have n1 := hk0.1.1
  have n2 := hk0.1.2
  have g4' : cells + c0 = h.1 := g4
  have g5' : slots + s0 = h.2.1 := g5
  have hsz : ls.size = zmaxL j := g1.2.1
  have hcs : cells + (h1.1 - h.1) ≤ R.cells ∧ slots + (h1.2.1 - h.2.1) ≤ R.slots := ⟨by omega, by omega⟩
  have cont : ∀ (H1 : Heap) (locs1 : List Loc), zW D classes cA ad base h1 H1 → va_S (zA base) s.heap H1 locs1 → W p l e R s m args below meth c H1 locs1 (cells + (h1.1 - h.1)) (slots + (h1.2.1 - h.2.1)) Q (F0 m (pc + 3) ls ((v1.map (zv ad)).toList ++ rest.map (zv ad))) := by
    intro H1 locs1 w1 w2
    have hk' : W p l e R s m args below meth c H1 locs1 (cells + (h1.1 - h.1)) (slots + (h1.2.1 - h.2.1)) Q (F0 m (pc + 3) ls ((v1.toList ++ rest).map (zv ad))) := hk ls H1 locs1 _ _ g1 w1 w2 (by show cells + (h1.1 - h.1) + c0 = h1.1; omega) (by show slots + (h1.2.1 - h.2.1) + s0 = h1.2.1; omega)
    cases v1 <;> exact hk'
  have fin : va_Run p l e R s m args below meth c H locs cells slots (h1.1 - h.1) (h1.2.1 - h.2.1) (F0 m pc ls (st.map (zv ad))) (rest.map (zv ad)) (zQc D cA ad base v1 h1 (As.map (zv ad)).toArray) (zA base) := by
    unfold zinv at hq
    split at hq
    · rename_i idx
      have hd := zins_dec hi (i := .invokevirtual idx) (show (3 : Nat) ≠ 0 by decide)
      split at hq
      · rename_i j2 n2 hml
        cases hq
        exact z_rv hx hb hmL hown hcore hE g2 g3 hsz hcs hf hlo hlen hc hd hml hp
      · rename_i j2 n2 hml
        cases hq
        exact z_rvn hx hb hmL hown hcore hE g2 g3 hsz hcs hf hlo hlen hc hd hml hp
      · cases hq
    · rename_i idx
      have hd := zins_dec hi (i := .invokestatic idx) (show (3 : Nat) ≠ 0 by decide)
      split at hq
      · rename_i j2 n2 hml
        cases hq
        exact z_rs hx hb hmL hown hcore hE g2 g3 hsz hcs hf hlo hlen hc hd hml hp
      · rename_i j2 n2 hml
        cases hq
        exact z_rsn hx hb hmL hown hcore hE g2 g3 hsz hcs hf hlo hlen hc hd hml hp
      · cases hq
    · rename_i idx
      have hd := zins_dec hi (i := .invokespecial idx) (show (3 : Nat) ≠ 0 by decide)
      split at hq
      · rename_i j2 n2 hml
        cases hq
        exact z_ri hx hb hmL hown hcore hE g2 g3 hsz hcs hf hlo hlen hc hd hml hp
      · rename_i j2 n2 hml
        cases hq
        exact z_rin hx hb hmL hown hcore hE g2 g3 hsz hcs hf hlo hlen hc hd hml hp
      · cases hq
    · cases hq
  exact z_call fin g3 cont
theorem z_sound {l : Launch} {D : va_G} {cA : Nat → ClassId} {ad : Nat → Nat} {base : Nat} {X : zX} : ∀ (n d j pc : Nat) (L : zL) (st : List Value) (h : zH) (v : Option Value) (h' : zH), zrun X n d j pc L st h = some (v, h') → zS l D cA ad base X d j pc L st h v h' := by
  intro n
  induction n with
  | zero => intro d j pc L st h v h' hz; cases hz
  | succ n ih =>
    intro d j pc L st h v h' hz
    rw [zrun] at hz
    split at hz
    · cases hz
    · rename_i i hi
      split at hz
      · rename_i v' hv
        cases hz
        refine ⟨⟨Nat.le_refl _, Nat.le_refl _⟩, ?_⟩
        intro p e R s m args below meth c Q c0 s0 hC hf hlo hRc hRs hR ls H locs cells slots g1 g2 g3 g4 g5
        obtain ⟨rfl, hl⟩ := zret_ok hv
        have hd := zins_dec hi (by rw [hl]; decide)
        rw [hl] at hd
        exact hR pc i ls H locs cells slots hd hv g2 g3 g4 g5
      · split at hz
        · rename_i q hq
          split at hz
          · rename_i As rest hp
            split at hz
            · cases hz
            · rename_i d'
              split at hz
              · rename_i v1 h1 hc
                exact z_callstep hi hq hp (ih _ _ _ _ _ _ _ _ hc) (ih _ _ _ _ _ _ _ _ hz)
              · cases hz
          · cases hz
        · split at hz
          · rename_i pc' L' st' h2 hs
            exact z_spec hi hs (ih _ _ _ _ _ _ _ _ hz)
          · split at hz
            · rename_i pc' L' st' h2 hs
              exact z_plain hi hs (ih _ _ _ _ _ _ _ _ hz)
            · cases hz
end
section
/-! RULES for walking a run: an instruction, a rule -/
section ZR
variable {X : zX} {d j pc : Nat} {L : zL} {r : List Value} {h : zH} {u : Option Value × zH}
theorem zr_iconst {n : Int} {v : Int32} (hi : zins j pc = some (.iconst n)) (hv : Int32.ofInt n = v) (k : zR X d j (pc + 1) L (.int v :: r) h u) : zR X d j pc L r h u := zR.step (F := ((pc + 1), L, (.int v :: r), h)) hi rfl rfl rfl (by rw [← hv]; rfl) k
theorem zr_bipush {n : Int} {v : Int32} (hi : zins j pc = some (.bipush n)) (hv : (Int8.ofInt n).toInt32 = v) (k : zR X d j (pc + 2) L (.int v :: r) h u) : zR X d j pc L r h u := zR.step (F := ((pc + 2), L, (.int v :: r), h)) hi rfl rfl rfl (by rw [← hv]; rfl) k
theorem zr_sipush {n : Int} {v : Int32} (hi : zins j pc = some (.sipush n)) (hv : (Int16.ofInt n).toInt32 = v) (k : zR X d j (pc + 3) L (.int v :: r) h u) : zR X d j pc L r h u := zR.step (F := ((pc + 3), L, (.int v :: r), h)) hi rfl rfl rfl (by rw [← hv]; rfl) k
theorem zr_lconst {n : Fin 2} {v : Int64} (hi : zins j pc = some (.lconst n)) (hv : Int64.ofNat (n : Nat) = v) (k : zR X d j (pc + 1) L (.long v :: r) h u) : zR X d j pc L r h u := zR.step (F := ((pc + 1), L, (.long v :: r), h)) hi rfl rfl rfl (by rw [← hv]; rfl) k
theorem zr_anull (hi : zins j pc = some (.aconst_null)) (k : zR X d j (pc + 1) L (.null :: r) h u) : zR X d j pc L r h u := zR.step (F := ((pc + 1), L, (.null :: r), h)) hi rfl rfl rfl (rfl) k
theorem zr_ldc {i : Nat} {v : Value} (hi : zins j pc = some (.ldc i)) (hv : zld (zown j) i = some v) (k : zR X d j (pc + 2) L (v :: r) h u) : zR X d j pc L r h u := zR.step (F := ((pc + 2), L, (v :: r), h)) hi rfl rfl rfl (by show zs_ldc pc (zown j) i L r h = _; unfold zs_ldc; rw [hv]) k
theorem zr_ldc2 {i : Nat} {v : Int64} (hi : zins j pc = some (.ldc2_w i)) (hv : zl2 (zown j) i = some v) (k : zR X d j (pc + 3) L (.long v :: r) h u) : zR X d j pc L r h u := zR.step (F := ((pc + 3), L, (.long v :: r), h)) hi rfl rfl rfl (by show zs_ldc2 pc (zown j) i L r h = _; unfold zs_ldc2; rw [hv]) k
theorem zr_iload_n {i : Fin 4} {x : Int32} (hi : zins j pc = some (.iload_n i)) (hl : L[(i : Nat)]? = some (some (.int x))) (k : zR X d j (pc + 1) L (.int x :: r) h u) : zR X d j pc L r h u := zR.step (F := ((pc + 1), L, (.int x :: r), h)) hi rfl rfl rfl (by show zs_il 1 pc i L r h = _; unfold zs_il; rw [hl]) k
theorem zr_iload {i : Nat} {x : Int32} (hi : zins j pc = some (.iload i)) (hl : L[i]? = some (some (.int x))) (k : zR X d j (pc + 2) L (.int x :: r) h u) : zR X d j pc L r h u := zR.step (F := ((pc + 2), L, (.int x :: r), h)) hi rfl rfl rfl (by show zs_il 2 pc i L r h = _; unfold zs_il; rw [hl]) k
theorem zr_lload_n {i : Fin 4} {x : Int64} (hi : zins j pc = some (.lload_n i)) (hl : L[(i : Nat)]? = some (some (.long x))) (k : zR X d j (pc + 1) L (.long x :: r) h u) : zR X d j pc L r h u := zR.step (F := ((pc + 1), L, (.long x :: r), h)) hi rfl rfl rfl (by show zs_jl 1 pc i L r h = _; unfold zs_jl; rw [hl]) k
theorem zr_lload {i : Nat} {x : Int64} (hi : zins j pc = some (.lload i)) (hl : L[i]? = some (some (.long x))) (k : zR X d j (pc + 2) L (.long x :: r) h u) : zR X d j pc L r h u := zR.step (F := ((pc + 2), L, (.long x :: r), h)) hi rfl rfl rfl (by show zs_jl 2 pc i L r h = _; unfold zs_jl; rw [hl]) k
theorem zr_aload_n {i : Fin 4} {x : Nat} (hi : zins j pc = some (.aload_n i)) (hl : L[(i : Nat)]? = some (some (.ref x))) (k : zR X d j (pc + 1) L (.ref x :: r) h u) : zR X d j pc L r h u := zR.step (F := ((pc + 1), L, (.ref x :: r), h)) hi rfl rfl rfl (by show zs_al 1 pc i L r h = _; unfold zs_al; rw [hl]) k
theorem zr_aload {i : Nat} {x : Nat} (hi : zins j pc = some (.aload i)) (hl : L[i]? = some (some (.ref x))) (k : zR X d j (pc + 2) L (.ref x :: r) h u) : zR X d j pc L r h u := zR.step (F := ((pc + 2), L, (.ref x :: r), h)) hi rfl rfl rfl (by show zs_al 2 pc i L r h = _; unfold zs_al; rw [hl]) k
theorem zr_aloadN_n {i : Fin 4} (hi : zins j pc = some (.aload_n i)) (hl : L[(i : Nat)]? = some (some .null)) (k : zR X d j (pc + 1) L (.null :: r) h u) : zR X d j pc L r h u := zR.step (F := ((pc + 1), L, (.null :: r), h)) hi rfl rfl rfl (by show zs_al 1 pc i L r h = _; unfold zs_al; rw [hl]) k
theorem zr_aloadN {i : Nat} (hi : zins j pc = some (.aload i)) (hl : L[i]? = some (some .null)) (k : zR X d j (pc + 2) L (.null :: r) h u) : zR X d j pc L r h u := zR.step (F := ((pc + 2), L, (.null :: r), h)) hi rfl rfl rfl (by show zs_al 2 pc i L r h = _; unfold zs_al; rw [hl]) k
theorem zr_istore_n {i : Fin 4} {L2 : zL} {x : Int32} (hi : zins j pc = some (.istore_n i)) (hl : zst1 L i (.int x) = some L2) (k : zR X d j (pc + 1) L2 r h u) : zR X d j pc L (.int x :: r) h u := zR.step (F := ((pc + 1), L2, r, h)) hi rfl rfl rfl (by show zs_is 1 pc i L (.int x :: r) h = _; unfold zs_is; dsimp only; rw [hl]) k
theorem zr_istore {i : Nat} {L2 : zL} {x : Int32} (hi : zins j pc = some (.istore i)) (hl : zst1 L i (.int x) = some L2) (k : zR X d j (pc + 2) L2 r h u) : zR X d j pc L (.int x :: r) h u := zR.step (F := ((pc + 2), L2, r, h)) hi rfl rfl rfl (by show zs_is 2 pc i L (.int x :: r) h = _; unfold zs_is; dsimp only; rw [hl]) k
theorem zr_lstore_n {i : Fin 4} {L2 : zL} {x : Int64} (hi : zins j pc = some (.lstore_n i)) (hl : zst2 L i (.long x) = some L2) (k : zR X d j (pc + 1) L2 r h u) : zR X d j pc L (.long x :: r) h u := zR.step (F := ((pc + 1), L2, r, h)) hi rfl rfl rfl (by show zs_js 1 pc i L (.long x :: r) h = _; unfold zs_js; dsimp only; rw [hl]) k
theorem zr_lstore {i : Nat} {L2 : zL} {x : Int64} (hi : zins j pc = some (.lstore i)) (hl : zst2 L i (.long x) = some L2) (k : zR X d j (pc + 2) L2 r h u) : zR X d j pc L (.long x :: r) h u := zR.step (F := ((pc + 2), L2, r, h)) hi rfl rfl rfl (by show zs_js 2 pc i L (.long x :: r) h = _; unfold zs_js; dsimp only; rw [hl]) k
theorem zr_astore_n {i : Fin 4} {L2 : zL} {x : Nat} (hi : zins j pc = some (.astore_n i)) (hl : zst1 L i (.ref x) = some L2) (k : zR X d j (pc + 1) L2 r h u) : zR X d j pc L (.ref x :: r) h u := zR.step (F := ((pc + 1), L2, r, h)) hi rfl rfl rfl (by show zs_as 1 pc i L (.ref x :: r) h = _; unfold zs_as; dsimp only; rw [hl]) k
theorem zr_astore {i : Nat} {L2 : zL} {x : Nat} (hi : zins j pc = some (.astore i)) (hl : zst1 L i (.ref x) = some L2) (k : zR X d j (pc + 2) L2 r h u) : zR X d j pc L (.ref x :: r) h u := zR.step (F := ((pc + 2), L2, r, h)) hi rfl rfl rfl (by show zs_as 2 pc i L (.ref x :: r) h = _; unfold zs_as; dsimp only; rw [hl]) k
theorem zr_aNstore_n {i : Fin 4} {L2 : zL} (hi : zins j pc = some (.astore_n i)) (hl : zst1 L i (.null) = some L2) (k : zR X d j (pc + 1) L2 r h u) : zR X d j pc L (.null :: r) h u := zR.step (F := ((pc + 1), L2, r, h)) hi rfl rfl rfl (by show zs_as 1 pc i L (.null :: r) h = _; unfold zs_as; dsimp only; rw [hl]) k
theorem zr_aNstore {i : Nat} {L2 : zL} (hi : zins j pc = some (.astore i)) (hl : zst1 L i (.null) = some L2) (k : zR X d j (pc + 2) L2 r h u) : zR X d j pc L (.null :: r) h u := zR.step (F := ((pc + 2), L2, r, h)) hi rfl rfl rfl (by show zs_as 2 pc i L (.null :: r) h = _; unfold zs_as; dsimp only; rw [hl]) k
theorem zr_iinc {i : Nat} {n : Int} {x v : Int32} {L2 : zL} (hi : zins j pc = some (.iinc i n)) (hl : L[i]? = some (some (.int x))) (hv : x + Int32.ofInt n = v) (h2 : zst1 L i (.int v) = some L2) (k : zR X d j (pc + 3) L2 r h u) : zR X d j pc L r h u := zR.step (F := ((pc + 3), L2, r, h)) hi rfl rfl rfl (by subst hv; show zs_inc pc i n L r h = _; unfold zs_inc; rw [hl]; dsimp only; rw [h2]) k
theorem zr_iadd {x y : Int32} (hi : zins j pc = some (.iadd)) (k : zR X d j (pc + 1) L (.int (x + y) :: r) h u) : zR X d j pc L (.int y :: .int x :: r) h u := zR.step (F := ((pc + 1), L, (.int (x + y) :: r), h)) hi rfl rfl rfl (rfl) k
theorem zr_isub {x y : Int32} (hi : zins j pc = some (.isub)) (k : zR X d j (pc + 1) L (.int (x - y) :: r) h u) : zR X d j pc L (.int y :: .int x :: r) h u := zR.step (F := ((pc + 1), L, (.int (x - y) :: r), h)) hi rfl rfl rfl (rfl) k
theorem zr_imul {x y : Int32} (hi : zins j pc = some (.imul)) (k : zR X d j (pc + 1) L (.int (x * y) :: r) h u) : zR X d j pc L (.int y :: .int x :: r) h u := zR.step (F := ((pc + 1), L, (.int (x * y) :: r), h)) hi rfl rfl rfl (rfl) k
theorem zr_iand {x y : Int32} (hi : zins j pc = some (.iand)) (k : zR X d j (pc + 1) L (.int (x &&& y) :: r) h u) : zR X d j pc L (.int y :: .int x :: r) h u := zR.step (F := ((pc + 1), L, (.int (x &&& y) :: r), h)) hi rfl rfl rfl (rfl) k
theorem zr_ishr {x y : Int32} (hi : zins j pc = some (.ishr)) (k : zR X d j (pc + 1) L (.int (x >>> (y &&& 31)) :: r) h u) : zR X d j pc L (.int y :: .int x :: r) h u := zR.step (F := ((pc + 1), L, (.int (x >>> (y &&& 31)) :: r), h)) hi rfl rfl rfl (rfl) k
theorem zr_idiv {x y : Int32} (hi : zins j pc = some (.idiv)) (hy : ¬ y = 0) (k : zR X d j (pc + 1) L (.int (x / y) :: r) h u) : zR X d j pc L (.int y :: .int x :: r) h u := zR.step (F := ((pc + 1), L, (.int (x / y) :: r), h)) hi rfl rfl rfl (by show zs_dv pc L (.int y :: .int x :: r) h (fun x y => x / y) = _; unfold zs_dv; dsimp only; rw [if_neg hy]) k
theorem zr_irem {x y : Int32} (hi : zins j pc = some (.irem)) (hy : ¬ y = 0) (k : zR X d j (pc + 1) L (.int (x - x / y * y) :: r) h u) : zR X d j pc L (.int y :: .int x :: r) h u := zR.step (F := ((pc + 1), L, (.int (x - x / y * y) :: r), h)) hi rfl rfl rfl (by show zs_dv pc L (.int y :: .int x :: r) h (fun x y => x - x / y * y) = _; unfold zs_dv; dsimp only; rw [if_neg hy]) k
theorem zr_ladd {x y : Int64} (hi : zins j pc = some (.ladd)) (k : zR X d j (pc + 1) L (.long (x + y) :: r) h u) : zR X d j pc L (.long y :: .long x :: r) h u := zR.step (F := ((pc + 1), L, (.long (x + y) :: r), h)) hi rfl rfl rfl (rfl) k
theorem zr_lmul {x y : Int64} (hi : zins j pc = some (.lmul)) (k : zR X d j (pc + 1) L (.long (x * y) :: r) h u) : zR X d j pc L (.long y :: .long x :: r) h u := zR.step (F := ((pc + 1), L, (.long (x * y) :: r), h)) hi rfl rfl rfl (rfl) k
theorem zr_land {x y : Int64} (hi : zins j pc = some (.land)) (k : zR X d j (pc + 1) L (.long (x &&& y) :: r) h u) : zR X d j pc L (.long y :: .long x :: r) h u := zR.step (F := ((pc + 1), L, (.long (x &&& y) :: r), h)) hi rfl rfl rfl (rfl) k
theorem zr_lor {x y : Int64} (hi : zins j pc = some (.lor)) (k : zR X d j (pc + 1) L (.long (x ||| y) :: r) h u) : zR X d j pc L (.long y :: .long x :: r) h u := zR.step (F := ((pc + 1), L, (.long (x ||| y) :: r), h)) hi rfl rfl rfl (rfl) k
theorem zr_lcmp {x y : Int64} (hi : zins j pc = some (.lcmp)) (k : zR X d j (pc + 1) L (.int (lg_cmp x y) :: r) h u) : zR X d j pc L (.long y :: .long x :: r) h u := zR.step (F := ((pc + 1), L, (.int (lg_cmp x y) :: r), h)) hi rfl rfl rfl (rfl) k
theorem zr_lshl {x : Int64} {y : Int32} (hi : zins j pc = some (.lshl)) (k : zR X d j (pc + 1) L (.long (x <<< (y.toInt64 &&& 63)) :: r) h u) : zR X d j pc L (.int y :: .long x :: r) h u := zR.step (F := ((pc + 1), L, (.long (x <<< (y.toInt64 &&& 63)) :: r), h)) hi rfl rfl rfl (rfl) k
theorem zr_lushr {x : Int64} {y : Int32} (hi : zins j pc = some (.lushr)) (k : zR X d j (pc + 1) L (.long ((x.toUInt64 >>> (y.toInt64.toUInt64 &&& Int64.toUInt64 63)).toInt64) :: r) h u) : zR X d j pc L (.int y :: .long x :: r) h u := zR.step (F := ((pc + 1), L, (.long ((x.toUInt64 >>> (y.toInt64.toUInt64 &&& Int64.toUInt64 63)).toInt64) :: r), h)) hi rfl rfl rfl (rfl) k
theorem zr_i2l {x : Int32} (hi : zins j pc = some (.i2l)) (k : zR X d j (pc + 1) L (.long x.toInt64 :: r) h u) : zR X d j pc L (.int x :: r) h u := zR.step (F := ((pc + 1), L, (.long x.toInt64 :: r), h)) hi rfl rfl rfl (rfl) k
theorem zr_i2c {x : Int32} (hi : zins j pc = some (.i2c)) (k : zR X d j (pc + 1) L (.int (x.toUInt32 % 65536).toInt32 :: r) h u) : zR X d j pc L (.int x :: r) h u := zR.step (F := ((pc + 1), L, (.int (x.toUInt32 % 65536).toInt32 :: r), h)) hi rfl rfl rfl (rfl) k
theorem zr_l2i {x : Int64} (hi : zins j pc = some (.l2i)) (k : zR X d j (pc + 1) L (.int x.toInt32 :: r) h u) : zR X d j pc L (.long x :: r) h u := zR.step (F := ((pc + 1), L, (.int x.toInt32 :: r), h)) hi rfl rfl rfl (rfl) k
theorem zgo_to {pc t : Nat} {off : Int} {L : zL} {st : List Value} {h : zH} (ht : (pc : Int) + off = (t : Int)) : zgo pc off L st h = some (t, L, st, h) := by
  unfold zgo
  rw [if_pos (by omega), ht]
  rfl
theorem zr_goto {off : Int} (t : Nat) (hi : zins j pc = some (.goto off)) (ht : (pc : Int) + off = (t : Int)) (k : zR X d j t L r h u) : zR X d j pc L r h u := zR.step (F := (t, L, r, h)) hi rfl rfl rfl (zgo_to ht) k
theorem zr_if_eq {x : Int32} {off : Int} (t : Nat) (hi : zins j pc = some (.ifCond .eq off)) (ht : (pc : Int) + off = (t : Int)) (kt : x = 0 → zR X d j t L r h u) (kf : ¬ x = 0 → zR X d j (pc + 3) L r h u) : zR X d j pc L (.int x :: r) h u := by
  have h0 : 0 ≤ (pc : Int) + off := by omega
  have h1 : ((pc : Int) + off).toNat = t := by omega
  by_cases hc : x = 0
  · exact zR.step (F := (t, L, r, h)) hi rfl rfl rfl (by show zs_if pc off L (.int x :: r) h (fun x => decide (x = 0)) = _; unfold zs_if; dsimp only; rw [if_pos h0, if_pos (decide_eq_true hc), h1]) (kt hc)
  · exact zR.step (F := (pc + 3, L, r, h)) hi rfl rfl rfl (by show zs_if pc off L (.int x :: r) h (fun x => decide (x = 0)) = _; unfold zs_if; dsimp only; rw [if_pos h0, if_neg (fun q => hc (of_decide_eq_true q))]) (kf hc)
theorem zr_icmp_eq {x y : Int32} {off : Int} (t : Nat) (hi : zins j pc = some (.if_icmp .eq off)) (ht : (pc : Int) + off = (t : Int)) (kt : x = y → zR X d j t L r h u) (kf : ¬ x = y → zR X d j (pc + 3) L r h u) : zR X d j pc L (.int y :: .int x :: r) h u := by
  have h0 : 0 ≤ (pc : Int) + off := by omega
  have h1 : ((pc : Int) + off).toNat = t := by omega
  by_cases hc : x = y
  · exact zR.step (F := (t, L, r, h)) hi rfl rfl rfl (by show zs_ic pc off L (.int y :: .int x :: r) h (fun x y => decide (x = y)) = _; unfold zs_ic; dsimp only; rw [if_pos h0, if_pos (decide_eq_true hc), h1]) (kt hc)
  · exact zR.step (F := (pc + 3, L, r, h)) hi rfl rfl rfl (by show zs_ic pc off L (.int y :: .int x :: r) h (fun x y => decide (x = y)) = _; unfold zs_ic; dsimp only; rw [if_pos h0, if_neg (fun q => hc (of_decide_eq_true q))]) (kf hc)
theorem zr_if_ne {x : Int32} {off : Int} (t : Nat) (hi : zins j pc = some (.ifCond .ne off)) (ht : (pc : Int) + off = (t : Int)) (kt : ¬ x = 0 → zR X d j t L r h u) (kf : x = 0 → zR X d j (pc + 3) L r h u) : zR X d j pc L (.int x :: r) h u := by
  have h0 : 0 ≤ (pc : Int) + off := by omega
  have h1 : ((pc : Int) + off).toNat = t := by omega
  by_cases hc : ¬ x = 0
  · exact zR.step (F := (t, L, r, h)) hi rfl rfl rfl (by show zs_if pc off L (.int x :: r) h (fun x => decide (¬ x = 0)) = _; unfold zs_if; dsimp only; rw [if_pos h0, if_pos (decide_eq_true hc), h1]) (kt hc)
  · exact zR.step (F := (pc + 3, L, r, h)) hi rfl rfl rfl (by show zs_if pc off L (.int x :: r) h (fun x => decide (¬ x = 0)) = _; unfold zs_if; dsimp only; rw [if_pos h0, if_neg (fun q => hc (of_decide_eq_true q))]) (kf (Classical.not_not.mp hc))
theorem zr_icmp_ne {x y : Int32} {off : Int} (t : Nat) (hi : zins j pc = some (.if_icmp .ne off)) (ht : (pc : Int) + off = (t : Int)) (kt : ¬ x = y → zR X d j t L r h u) (kf : x = y → zR X d j (pc + 3) L r h u) : zR X d j pc L (.int y :: .int x :: r) h u := by
  have h0 : 0 ≤ (pc : Int) + off := by omega
  have h1 : ((pc : Int) + off).toNat = t := by omega
  by_cases hc : ¬ x = y
  · exact zR.step (F := (t, L, r, h)) hi rfl rfl rfl (by show zs_ic pc off L (.int y :: .int x :: r) h (fun x y => decide (¬ x = y)) = _; unfold zs_ic; dsimp only; rw [if_pos h0, if_pos (decide_eq_true hc), h1]) (kt hc)
  · exact zR.step (F := (pc + 3, L, r, h)) hi rfl rfl rfl (by show zs_ic pc off L (.int y :: .int x :: r) h (fun x y => decide (¬ x = y)) = _; unfold zs_ic; dsimp only; rw [if_pos h0, if_neg (fun q => hc (of_decide_eq_true q))]) (kf (Classical.not_not.mp hc))
theorem zr_if_lt {x : Int32} {off : Int} (t : Nat) (hi : zins j pc = some (.ifCond .lt off)) (ht : (pc : Int) + off = (t : Int)) (kt : x < 0 → zR X d j t L r h u) (kf : ¬ x < 0 → zR X d j (pc + 3) L r h u) : zR X d j pc L (.int x :: r) h u := by
  have h0 : 0 ≤ (pc : Int) + off := by omega
  have h1 : ((pc : Int) + off).toNat = t := by omega
  by_cases hc : x < 0
  · exact zR.step (F := (t, L, r, h)) hi rfl rfl rfl (by show zs_if pc off L (.int x :: r) h (fun x => decide (x < 0)) = _; unfold zs_if; dsimp only; rw [if_pos h0, if_pos (decide_eq_true hc), h1]) (kt hc)
  · exact zR.step (F := (pc + 3, L, r, h)) hi rfl rfl rfl (by show zs_if pc off L (.int x :: r) h (fun x => decide (x < 0)) = _; unfold zs_if; dsimp only; rw [if_pos h0, if_neg (fun q => hc (of_decide_eq_true q))]) (kf hc)
theorem zr_icmp_lt {x y : Int32} {off : Int} (t : Nat) (hi : zins j pc = some (.if_icmp .lt off)) (ht : (pc : Int) + off = (t : Int)) (kt : x < y → zR X d j t L r h u) (kf : ¬ x < y → zR X d j (pc + 3) L r h u) : zR X d j pc L (.int y :: .int x :: r) h u := by
  have h0 : 0 ≤ (pc : Int) + off := by omega
  have h1 : ((pc : Int) + off).toNat = t := by omega
  by_cases hc : x < y
  · exact zR.step (F := (t, L, r, h)) hi rfl rfl rfl (by show zs_ic pc off L (.int y :: .int x :: r) h (fun x y => decide (x < y)) = _; unfold zs_ic; dsimp only; rw [if_pos h0, if_pos (decide_eq_true hc), h1]) (kt hc)
  · exact zR.step (F := (pc + 3, L, r, h)) hi rfl rfl rfl (by show zs_ic pc off L (.int y :: .int x :: r) h (fun x y => decide (x < y)) = _; unfold zs_ic; dsimp only; rw [if_pos h0, if_neg (fun q => hc (of_decide_eq_true q))]) (kf hc)
theorem zr_if_ge {x : Int32} {off : Int} (t : Nat) (hi : zins j pc = some (.ifCond .ge off)) (ht : (pc : Int) + off = (t : Int)) (kt : 0 ≤ x → zR X d j t L r h u) (kf : ¬ 0 ≤ x → zR X d j (pc + 3) L r h u) : zR X d j pc L (.int x :: r) h u := by
  have h0 : 0 ≤ (pc : Int) + off := by omega
  have h1 : ((pc : Int) + off).toNat = t := by omega
  by_cases hc : 0 ≤ x
  · exact zR.step (F := (t, L, r, h)) hi rfl rfl rfl (by show zs_if pc off L (.int x :: r) h (fun x => decide (0 ≤ x)) = _; unfold zs_if; dsimp only; rw [if_pos h0, if_pos (decide_eq_true hc), h1]) (kt hc)
  · exact zR.step (F := (pc + 3, L, r, h)) hi rfl rfl rfl (by show zs_if pc off L (.int x :: r) h (fun x => decide (0 ≤ x)) = _; unfold zs_if; dsimp only; rw [if_pos h0, if_neg (fun q => hc (of_decide_eq_true q))]) (kf hc)
theorem zr_icmp_ge {x y : Int32} {off : Int} (t : Nat) (hi : zins j pc = some (.if_icmp .ge off)) (ht : (pc : Int) + off = (t : Int)) (kt : y ≤ x → zR X d j t L r h u) (kf : ¬ y ≤ x → zR X d j (pc + 3) L r h u) : zR X d j pc L (.int y :: .int x :: r) h u := by
  have h0 : 0 ≤ (pc : Int) + off := by omega
  have h1 : ((pc : Int) + off).toNat = t := by omega
  by_cases hc : y ≤ x
  · exact zR.step (F := (t, L, r, h)) hi rfl rfl rfl (by show zs_ic pc off L (.int y :: .int x :: r) h (fun x y => decide (y ≤ x)) = _; unfold zs_ic; dsimp only; rw [if_pos h0, if_pos (decide_eq_true hc), h1]) (kt hc)
  · exact zR.step (F := (pc + 3, L, r, h)) hi rfl rfl rfl (by show zs_ic pc off L (.int y :: .int x :: r) h (fun x y => decide (y ≤ x)) = _; unfold zs_ic; dsimp only; rw [if_pos h0, if_neg (fun q => hc (of_decide_eq_true q))]) (kf hc)
theorem zr_if_gt {x : Int32} {off : Int} (t : Nat) (hi : zins j pc = some (.ifCond .gt off)) (ht : (pc : Int) + off = (t : Int)) (kt : 0 < x → zR X d j t L r h u) (kf : ¬ 0 < x → zR X d j (pc + 3) L r h u) : zR X d j pc L (.int x :: r) h u := by
  have h0 : 0 ≤ (pc : Int) + off := by omega
  have h1 : ((pc : Int) + off).toNat = t := by omega
  by_cases hc : 0 < x
  · exact zR.step (F := (t, L, r, h)) hi rfl rfl rfl (by show zs_if pc off L (.int x :: r) h (fun x => decide (0 < x)) = _; unfold zs_if; dsimp only; rw [if_pos h0, if_pos (decide_eq_true hc), h1]) (kt hc)
  · exact zR.step (F := (pc + 3, L, r, h)) hi rfl rfl rfl (by show zs_if pc off L (.int x :: r) h (fun x => decide (0 < x)) = _; unfold zs_if; dsimp only; rw [if_pos h0, if_neg (fun q => hc (of_decide_eq_true q))]) (kf hc)
theorem zr_icmp_gt {x y : Int32} {off : Int} (t : Nat) (hi : zins j pc = some (.if_icmp .gt off)) (ht : (pc : Int) + off = (t : Int)) (kt : y < x → zR X d j t L r h u) (kf : ¬ y < x → zR X d j (pc + 3) L r h u) : zR X d j pc L (.int y :: .int x :: r) h u := by
  have h0 : 0 ≤ (pc : Int) + off := by omega
  have h1 : ((pc : Int) + off).toNat = t := by omega
  by_cases hc : y < x
  · exact zR.step (F := (t, L, r, h)) hi rfl rfl rfl (by show zs_ic pc off L (.int y :: .int x :: r) h (fun x y => decide (y < x)) = _; unfold zs_ic; dsimp only; rw [if_pos h0, if_pos (decide_eq_true hc), h1]) (kt hc)
  · exact zR.step (F := (pc + 3, L, r, h)) hi rfl rfl rfl (by show zs_ic pc off L (.int y :: .int x :: r) h (fun x y => decide (y < x)) = _; unfold zs_ic; dsimp only; rw [if_pos h0, if_neg (fun q => hc (of_decide_eq_true q))]) (kf hc)
theorem zr_if_le {x : Int32} {off : Int} (t : Nat) (hi : zins j pc = some (.ifCond .le off)) (ht : (pc : Int) + off = (t : Int)) (kt : x ≤ 0 → zR X d j t L r h u) (kf : ¬ x ≤ 0 → zR X d j (pc + 3) L r h u) : zR X d j pc L (.int x :: r) h u := by
  have h0 : 0 ≤ (pc : Int) + off := by omega
  have h1 : ((pc : Int) + off).toNat = t := by omega
  by_cases hc : x ≤ 0
  · exact zR.step (F := (t, L, r, h)) hi rfl rfl rfl (by show zs_if pc off L (.int x :: r) h (fun x => decide (x ≤ 0)) = _; unfold zs_if; dsimp only; rw [if_pos h0, if_pos (decide_eq_true hc), h1]) (kt hc)
  · exact zR.step (F := (pc + 3, L, r, h)) hi rfl rfl rfl (by show zs_if pc off L (.int x :: r) h (fun x => decide (x ≤ 0)) = _; unfold zs_if; dsimp only; rw [if_pos h0, if_neg (fun q => hc (of_decide_eq_true q))]) (kf hc)
theorem zr_icmp_le {x y : Int32} {off : Int} (t : Nat) (hi : zins j pc = some (.if_icmp .le off)) (ht : (pc : Int) + off = (t : Int)) (kt : x ≤ y → zR X d j t L r h u) (kf : ¬ x ≤ y → zR X d j (pc + 3) L r h u) : zR X d j pc L (.int y :: .int x :: r) h u := by
  have h0 : 0 ≤ (pc : Int) + off := by omega
  have h1 : ((pc : Int) + off).toNat = t := by omega
  by_cases hc : x ≤ y
  · exact zR.step (F := (t, L, r, h)) hi rfl rfl rfl (by show zs_ic pc off L (.int y :: .int x :: r) h (fun x y => decide (x ≤ y)) = _; unfold zs_ic; dsimp only; rw [if_pos h0, if_pos (decide_eq_true hc), h1]) (kt hc)
  · exact zR.step (F := (pc + 3, L, r, h)) hi rfl rfl rfl (by show zs_ic pc off L (.int y :: .int x :: r) h (fun x y => decide (x ≤ y)) = _; unfold zs_ic; dsimp only; rw [if_pos h0, if_neg (fun q => hc (of_decide_eq_true q))]) (kf hc)
theorem zr_ifnull {off : Int} {a : Nat} (hi : zins j pc = some (.ifnull off)) (k : zR X d j (pc + 3) L r h u) : zR X d j pc L (.ref a :: r) h u := zR.step (F := ((pc + 3), L, r, h)) hi rfl rfl rfl (rfl) k
theorem zr_ifnullN {off : Int} (t : Nat) (hi : zins j pc = some (.ifnull off)) (ht : (pc : Int) + off = (t : Int)) (k : zR X d j t L r h u) : zR X d j pc L (.null :: r) h u := zR.step (F := (t, L, r, h)) hi rfl rfl rfl (zgo_to ht) k
theorem zr_ifnonnull {off : Int} {a : Nat} (t : Nat) (hi : zins j pc = some (.ifnonnull off)) (ht : (pc : Int) + off = (t : Int)) (k : zR X d j t L r h u) : zR X d j pc L (.ref a :: r) h u := zR.step (F := (t, L, r, h)) hi rfl rfl rfl (zgo_to ht) k
theorem zr_ifnonnullN {off : Int} (hi : zins j pc = some (.ifnonnull off)) (k : zR X d j (pc + 3) L r h u) : zR X d j pc L (.null :: r) h u := zR.step (F := ((pc + 3), L, r, h)) hi rfl rfl rfl (rfl) k
theorem zr_tabOut {dd lo hh : Int} {offs : Array Int} {x : Int32} (t : Nat) (hi : zins j pc = some (.tableswitch dd lo hh offs)) (hx : x.toInt < lo ∨ hh < x.toInt) (ht : (pc : Int) + dd = (t : Int)) (k : zR X d j t L r h u) : zR X d j pc L (.int x :: r) h u := zR.step (F := (t, L, r, h)) hi rfl rfl rfl (by show zs_tab pc dd lo hh offs L (.int x :: r) h = _; unfold zs_tab; dsimp only; rw [if_pos hx]; exact zgo_to ht) k
theorem zr_tabIn {dd lo hh off : Int} {offs : Array Int} {x : Int32} (t : Nat) (hi : zins j pc = some (.tableswitch dd lo hh offs)) (hx : ¬ (x.toInt < lo ∨ hh < x.toInt)) (ho : offs[(x.toInt - lo).toNat]? = some off) (ht : (pc : Int) + off = (t : Int)) (k : zR X d j t L r h u) : zR X d j pc L (.int x :: r) h u := zR.step (F := (t, L, r, h)) hi rfl rfl rfl (by show zs_tab pc dd lo hh offs L (.int x :: r) h = _; unfold zs_tab; dsimp only; rw [if_neg hx, ho]; exact zgo_to ht) k
theorem zr_dup {v : Value} (hi : zins j pc = some (.dup)) (hc : v.category = 1) (k : zR X d j (pc + 1) L (v :: v :: r) h u) : zR X d j pc L (v :: r) h u := zR.step (F := ((pc + 1), L, (v :: v :: r), h)) hi rfl rfl rfl (by show zs_dup pc L (v :: r) h = _; unfold zs_dup; dsimp only; rw [if_pos hc]) k
theorem zr_pop {v : Value} (hi : zins j pc = some (.pop)) (hc : v.category = 1) (k : zR X d j (pc + 1) L r h u) : zR X d j pc L (v :: r) h u := zR.step (F := ((pc + 1), L, r, h)) hi rfl rfl rfl (by show zs_pop pc L (v :: r) h = _; unfold zs_pop; dsimp only; rw [if_pos hc]) k
theorem zr_dup2 {v w : Value} (hi : zins j pc = some (.dup2)) (hc : v.category = 1) (hw : w.category = 1) (k : zR X d j (pc + 1) L (v :: w :: v :: w :: r) h u) : zR X d j pc L (v :: w :: r) h u := zR.step (F := ((pc + 1), L, (v :: w :: v :: w :: r), h)) hi rfl rfl rfl (by show zs_dup2 pc L (v :: w :: r) h = _; unfold zs_dup2; dsimp only; rw [if_pos ⟨hc, hw⟩]) k
theorem zr_gets {i : Nat} {v : Value} {q : (String × String × String) × Bool} (hi : zins j pc = some (.getstatic i)) (hv : zsl X (zown j) i = some (v, q)) (k : zR X d j (pc + 3) L (v :: r) h u) : zR X d j pc L r h u := zR.step (F := ((pc + 3), L, (v :: r), h)) hi rfl rfl rfl (by show zs_gets pc (zown j) i X L r h = _; unfold zs_gets; rw [hv]) k
theorem zr_getf {i a ci kf : Nat} {fs : List Value} {v : Value} {ne : Bool} (hi : zins j pc = some (.getfield i)) (hc : h.2.2 a = some (.inr (ci, fs))) (hf : zfl (zown j) i = some (ci, kf, ne)) (hv : fs[kf]? = some v) (k : zR X d j (pc + 3) L (v :: r) h u) : zR X d j pc L (.ref a :: r) h u := zR.step (F := ((pc + 3), L, (v :: r), h)) hi rfl rfl rfl (by show zs_getf pc (zown j) i L (.ref a :: r) h = _; unfold zs_getf; dsimp only; rw [hc]; dsimp only; rw [hf]; dsimp only; rw [if_pos rfl, hv]) k
theorem zr_getk {i a : Nat} {v : Value} (hi : zins j pc = some (.getfield i)) (hc : h.2.2 a = none) (hv : zkf (zown j) i a = some v) (k : zR X d j (pc + 3) L (v :: r) h u) : zR X d j pc L (.ref a :: r) h u := zR.step (F := ((pc + 3), L, (v :: r), h)) hi rfl rfl rfl (by show zs_getf pc (zown j) i L (.ref a :: r) h = _; unfold zs_getf; dsimp only; rw [hc]; dsimp only; rw [hv]) k
theorem zr_putf {i a ci kf : Nat} {fs : List Value} {v : Value} {ne : Bool} (hi : zins j pc = some (.putfield i)) (hc : h.2.2 a = some (.inr (ci, fs))) (hf : zfl (zown j) i = some (ci, kf, ne)) (hl : kf < fs.length) (ht : zfit (zty ci kf) v = true) (hn : zfin ci kf = false ∨ (zini j = true ∧ ci = zown j ∧ ne = false)) (k : zR X d j (pc + 3) L r (zwr h a (.inr (ci, fs.set kf v))) u) : zR X d j pc L (v :: .ref a :: r) h u := zR.step (F := ((pc + 3), L, r, (zwr h a (.inr (ci, fs.set kf v))))) hi rfl rfl rfl (by show zs_putf (zini j) pc (zown j) i L (v :: .ref a :: r) h = _; unfold zs_putf; dsimp only; rw [hc]; dsimp only; rw [hf]; dsimp only; rw [if_pos ⟨rfl, hl, ht, hn⟩]) k
theorem zr_iaload {a n : Nat} {f : Nat → Int32} {i : Int32} (hi : zins j pc = some (.iaload)) (hc : h.2.2 a = some (.inl (0, n, .inl f))) (hin : 0 ≤ i.toInt ∧ i.toInt < n) (k : zR X d j (pc + 1) L (.int (f i.toNatClampNeg) :: r) h u) : zR X d j pc L (.int i :: .ref a :: r) h u := zR.step (F := ((pc + 1), L, (.int (f i.toNatClampNeg) :: r), h)) hi rfl rfl rfl (by show zs_ald pc 0 X L (.int i :: .ref a :: r) h = _; unfold zs_ald; dsimp only; rw [hc]; dsimp only; rw [if_pos ⟨rfl, hin⟩]) k
theorem zr_ialoadK {a n : Nat} {f : Nat → Value} {i : Int32} (hi : zins j pc = some (.iaload)) (hc : h.2.2 a = none) (hk : zka X a = some (0, n, f)) (hin : 0 ≤ i.toInt ∧ i.toInt < n) (k : zR X d j (pc + 1) L (f i.toNatClampNeg :: r) h u) : zR X d j pc L (.int i :: .ref a :: r) h u := zR.step (F := ((pc + 1), L, (f i.toNatClampNeg :: r), h)) hi rfl rfl rfl (by show zs_ald pc 0 X L (.int i :: .ref a :: r) h = _; unfold zs_ald; dsimp only; rw [hc]; dsimp only; rw [hk]; dsimp only; rw [if_pos ⟨rfl, hin⟩]) k
theorem zr_caload {a n : Nat} {f : Nat → Int32} {i : Int32} (hi : zins j pc = some (.caload)) (hc : h.2.2 a = some (.inl (1, n, .inl f))) (hin : 0 ≤ i.toInt ∧ i.toInt < n) (k : zR X d j (pc + 1) L (.int (f i.toNatClampNeg) :: r) h u) : zR X d j pc L (.int i :: .ref a :: r) h u := zR.step (F := ((pc + 1), L, (.int (f i.toNatClampNeg) :: r), h)) hi rfl rfl rfl (by show zs_ald pc 1 X L (.int i :: .ref a :: r) h = _; unfold zs_ald; dsimp only; rw [hc]; dsimp only; rw [if_pos ⟨rfl, hin⟩]) k
theorem zr_caloadK {a n : Nat} {f : Nat → Value} {i : Int32} (hi : zins j pc = some (.caload)) (hc : h.2.2 a = none) (hk : zka X a = some (1, n, f)) (hin : 0 ≤ i.toInt ∧ i.toInt < n) (k : zR X d j (pc + 1) L (f i.toNatClampNeg :: r) h u) : zR X d j pc L (.int i :: .ref a :: r) h u := zR.step (F := ((pc + 1), L, (f i.toNatClampNeg :: r), h)) hi rfl rfl rfl (by show zs_ald pc 1 X L (.int i :: .ref a :: r) h = _; unfold zs_ald; dsimp only; rw [hc]; dsimp only; rw [hk]; dsimp only; rw [if_pos ⟨rfl, hin⟩]) k
theorem zr_baload {a n : Nat} {f : Nat → Int32} {i : Int32} (hi : zins j pc = some (.baload)) (hc : h.2.2 a = some (.inl (3, n, .inl f))) (hin : 0 ≤ i.toInt ∧ i.toInt < n) (k : zR X d j (pc + 1) L (.int (f i.toNatClampNeg) :: r) h u) : zR X d j pc L (.int i :: .ref a :: r) h u := zR.step (F := ((pc + 1), L, (.int (f i.toNatClampNeg) :: r), h)) hi rfl rfl rfl (by show zs_bld pc X L (.int i :: .ref a :: r) h = _; unfold zs_bld; dsimp only; rw [hc]; dsimp only; rw [if_pos ⟨rfl, hin⟩]) k
theorem zr_baloadK {a n : Nat} {f : Nat → Value} {i : Int32} (hi : zins j pc = some (.baload)) (hc : h.2.2 a = none) (hk : zka X a = some (4, n, f)) (hin : 0 ≤ i.toInt ∧ i.toInt < n) (k : zR X d j (pc + 1) L (f i.toNatClampNeg :: r) h u) : zR X d j pc L (.int i :: .ref a :: r) h u := zR.step (F := ((pc + 1), L, (f i.toNatClampNeg :: r), h)) hi rfl rfl rfl (by show zs_bld pc X L (.int i :: .ref a :: r) h = _; unfold zs_bld; dsimp only; rw [hc]; dsimp only; rw [hk]; dsimp only; rw [if_pos ⟨rfl, hin⟩]) k
theorem zr_laload {a n : Nat} {f : Nat → Int64} {i : Int32} (hi : zins j pc = some (.laload)) (hc : h.2.2 a = some (.inl (2, n, .inr (.inl f)))) (hin : 0 ≤ i.toInt ∧ i.toInt < n) (k : zR X d j (pc + 1) L (.long (f i.toNatClampNeg) :: r) h u) : zR X d j pc L (.int i :: .ref a :: r) h u := zR.step (F := ((pc + 1), L, (.long (f i.toNatClampNeg) :: r), h)) hi rfl rfl rfl (by show zs_jld pc L (.int i :: .ref a :: r) h = _; unfold zs_jld; dsimp only; rw [hc]; dsimp only; rw [if_pos ⟨rfl, hin⟩]) k
theorem zr_aaload {a n : Nat} {f : Nat → Option Nat} {i : Int32} (hi : zins j pc = some (.aaload)) (hc : h.2.2 a = some (.inl (5, n, .inr (.inr (.inr (.inr f)))))) (hin : 0 ≤ i.toInt ∧ i.toInt < n) (k : zR X d j (pc + 1) L (va_rf (f i.toNatClampNeg) :: r) h u) : zR X d j pc L (.int i :: .ref a :: r) h u := zR.step (F := ((pc + 1), L, (va_rf (f i.toNatClampNeg) :: r), h)) hi rfl rfl rfl (by show zs_rld pc X L (.int i :: .ref a :: r) h = _; unfold zs_rld; dsimp only; rw [hc]; dsimp only; rw [if_pos ⟨rfl, hin⟩]) k
theorem zr_aaloadK {a n : Nat} {f : Nat → Value} {i : Int32} (hi : zins j pc = some (.aaload)) (hc : h.2.2 a = none) (hk : zka X a = some (6, n, f)) (hin : 0 ≤ i.toInt ∧ i.toInt < n) (k : zR X d j (pc + 1) L (f i.toNatClampNeg :: r) h u) : zR X d j pc L (.int i :: .ref a :: r) h u := zR.step (F := ((pc + 1), L, (f i.toNatClampNeg :: r), h)) hi rfl rfl rfl (by show zs_rld pc X L (.int i :: .ref a :: r) h = _; unfold zs_rld; dsimp only; rw [hc]; dsimp only; rw [hk]; dsimp only; rw [if_pos ⟨rfl, hin⟩]) k
theorem zr_iastore {a n : Nat} {f : Nat → Int32} {i x : Int32} (hi : zins j pc = some (.iastore)) (hc : h.2.2 a = some (.inl (0, n, .inl f))) (hin : 0 ≤ i.toInt ∧ i.toInt < n) (k : zR X d j (pc + 1) L r (zwr h a (.inl (0, n, .inl (upd f i.toNatClampNeg (vp_nar .int x))))) u) : zR X d j pc L (.int x :: .int i :: .ref a :: r) h u := zR.step (F := ((pc + 1), L, r, (zwr h a (.inl (0, n, .inl (upd f i.toNatClampNeg (vp_nar .int x))))))) hi rfl rfl rfl (by show zs_ast pc 0 .int L (.int x :: .int i :: .ref a :: r) h = _; unfold zs_ast; dsimp only; rw [hc]; dsimp only; rw [if_pos ⟨rfl, hin⟩]) k
theorem zr_castore {a n : Nat} {f : Nat → Int32} {i x : Int32} (hi : zins j pc = some (.castore)) (hc : h.2.2 a = some (.inl (1, n, .inl f))) (hin : 0 ≤ i.toInt ∧ i.toInt < n) (k : zR X d j (pc + 1) L r (zwr h a (.inl (1, n, .inl (upd f i.toNatClampNeg (vp_nar .char x))))) u) : zR X d j pc L (.int x :: .int i :: .ref a :: r) h u := zR.step (F := ((pc + 1), L, r, (zwr h a (.inl (1, n, .inl (upd f i.toNatClampNeg (vp_nar .char x))))))) hi rfl rfl rfl (by show zs_ast pc 1 .char L (.int x :: .int i :: .ref a :: r) h = _; unfold zs_ast; dsimp only; rw [hc]; dsimp only; rw [if_pos ⟨rfl, hin⟩]) k
theorem zr_bastore {a n : Nat} {f : Nat → Int32} {i x : Int32} (hi : zins j pc = some (.bastore)) (hc : h.2.2 a = some (.inl (3, n, .inl f))) (hin : 0 ≤ i.toInt ∧ i.toInt < n) (k : zR X d j (pc + 1) L r (zwr h a (.inl (3, n, .inl (upd f i.toNatClampNeg (vp_nar .boolean x))))) u) : zR X d j pc L (.int x :: .int i :: .ref a :: r) h u := zR.step (F := ((pc + 1), L, r, (zwr h a (.inl (3, n, .inl (upd f i.toNatClampNeg (vp_nar .boolean x))))))) hi rfl rfl rfl (by show zs_ast pc 3 .boolean L (.int x :: .int i :: .ref a :: r) h = _; unfold zs_ast; dsimp only; rw [hc]; dsimp only; rw [if_pos ⟨rfl, hin⟩]) k
theorem zr_lastore {a n : Nat} {f : Nat → Int64} {i : Int32} {x : Int64} (hi : zins j pc = some (.lastore)) (hc : h.2.2 a = some (.inl (2, n, .inr (.inl f)))) (hin : 0 ≤ i.toInt ∧ i.toInt < n) (k : zR X d j (pc + 1) L r (zwr h a (.inl (2, n, .inr (.inl (vp_updL f i.toNatClampNeg x))))) u) : zR X d j pc L (.long x :: .int i :: .ref a :: r) h u := zR.step (F := ((pc + 1), L, r, (zwr h a (.inl (2, n, .inr (.inl (vp_updL f i.toNatClampNeg x))))))) hi rfl rfl rfl (by show zs_jst pc L (.long x :: .int i :: .ref a :: r) h = _; unfold zs_jst; dsimp only; rw [hc]; dsimp only; rw [if_pos ⟨rfl, hin⟩]) k
theorem zr_aastore {a b n : Nat} {f : Nat → Option Nat} {i : Int32} {fs : List Value} (hi : zins j pc = some (.aastore)) (hc : h.2.2 a = some (.inl (5, n, .inr (.inr (.inr (.inr f)))))) (hb : h.2.2 b = some (.inr (zPat, fs))) (hin : 0 ≤ i.toInt ∧ i.toInt < n) (k : zR X d j (pc + 1) L r (zwr h a (.inl (5, n, .inr (.inr (.inr (.inr (va_up f i.toNatClampNeg (some b)))))))) u) : zR X d j pc L (.ref b :: .int i :: .ref a :: r) h u := zR.step (F := ((pc + 1), L, r, (zwr h a (.inl (5, n, .inr (.inr (.inr (.inr (va_up f i.toNatClampNeg (some b)))))))))) hi rfl rfl rfl (by show zs_rst pc L (.ref b :: .int i :: .ref a :: r) h = _; unfold zs_rst; dsimp only; rw [hc, hb]; dsimp only; rw [if_pos ⟨rfl, rfl, hin⟩]) k
theorem zr_len {a t : Nat} {q : vp_A} {v : Int32} (hi : zins j pc = some (.arraylength)) (hc : h.2.2 a = some (.inl (t, q))) (ht : t ≤ 5) (hv : Int32.ofNat q.1 = v) (k : zR X d j (pc + 1) L (.int v :: r) h u) : zR X d j pc L (.ref a :: r) h u := zR.step (F := ((pc + 1), L, (.int v :: r), h)) hi rfl rfl rfl (by subst hv; show zs_len pc X L (.ref a :: r) h = _; unfold zs_len; dsimp only; rw [hc]; dsimp only; rw [if_pos ht]) k
theorem zr_lenK {a t n : Nat} {f : Nat → Value} {v : Int32} (hi : zins j pc = some (.arraylength)) (hc : h.2.2 a = none) (hk : zka X a = some (t, n, f)) (hv : Int32.ofNat n = v) (k : zR X d j (pc + 1) L (.int v :: r) h u) : zR X d j pc L (.ref a :: r) h u := zR.step (F := ((pc + 1), L, (.int v :: r), h)) hi rfl rfl rfl (by subst hv; show zs_len pc X L (.ref a :: r) h = _; unfold zs_len; dsimp only; rw [hc]; dsimp only; rw [hk]) k
theorem zr_newa_int {n : Int32} {N : Nat} (hi : zins j pc = some (.newarray .int)) (hN : n.toNatClampNeg = N) (hn : 0 ≤ n.toInt ∧ n.toInt ≤ 5000) (k : zR X d j (pc + 2) L (.ref (zK + h.1) :: r) (znew h N (.inl (0, (N, .inl (fun _ => 0))))) u) : zR X d j pc L (.int n :: r) h u := zR.step (F := ((pc + 2), L, (.ref (zK + h.1) :: r), (znew h N (.inl (0, (N, .inl (fun _ => 0))))))) hi rfl rfl rfl (by subst hN; show zs_newa pc 0 (fun N => (N, .inl (fun _ => 0))) L (.int n :: r) h = _; unfold zs_newa; dsimp only; rw [if_pos hn]) k
theorem zr_newa_char {n : Int32} {N : Nat} (hi : zins j pc = some (.newarray .char)) (hN : n.toNatClampNeg = N) (hn : 0 ≤ n.toInt ∧ n.toInt ≤ 5000) (k : zR X d j (pc + 2) L (.ref (zK + h.1) :: r) (znew h N (.inl (1, (N, .inl (fun _ => 0))))) u) : zR X d j pc L (.int n :: r) h u := zR.step (F := ((pc + 2), L, (.ref (zK + h.1) :: r), (znew h N (.inl (1, (N, .inl (fun _ => 0))))))) hi rfl rfl rfl (by subst hN; show zs_newa pc 1 (fun N => (N, .inl (fun _ => 0))) L (.int n :: r) h = _; unfold zs_newa; dsimp only; rw [if_pos hn]) k
theorem zr_newa_long {n : Int32} {N : Nat} (hi : zins j pc = some (.newarray .long)) (hN : n.toNatClampNeg = N) (hn : 0 ≤ n.toInt ∧ n.toInt ≤ 5000) (k : zR X d j (pc + 2) L (.ref (zK + h.1) :: r) (znew h N (.inl (2, (N, .inr (.inl (fun _ => 0)))))) u) : zR X d j pc L (.int n :: r) h u := zR.step (F := ((pc + 2), L, (.ref (zK + h.1) :: r), (znew h N (.inl (2, (N, .inr (.inl (fun _ => 0)))))))) hi rfl rfl rfl (by subst hN; show zs_newa pc 2 (fun N => (N, .inr (.inl (fun _ => 0)))) L (.int n :: r) h = _; unfold zs_newa; dsimp only; rw [if_pos hn]) k
theorem zr_newa_boolean {n : Int32} {N : Nat} (hi : zins j pc = some (.newarray .boolean)) (hN : n.toNatClampNeg = N) (hn : 0 ≤ n.toInt ∧ n.toInt ≤ 5000) (k : zR X d j (pc + 2) L (.ref (zK + h.1) :: r) (znew h N (.inl (3, (N, .inl (fun _ => 0))))) u) : zR X d j pc L (.int n :: r) h u := zR.step (F := ((pc + 2), L, (.ref (zK + h.1) :: r), (znew h N (.inl (3, (N, .inl (fun _ => 0))))))) hi rfl rfl rfl (by subst hN; show zs_newa pc 3 (fun N => (N, .inl (fun _ => 0))) L (.int n :: r) h = _; unfold zs_newa; dsimp only; rw [if_pos hn]) k
theorem zr_anew {i : Nat} {n : Int32} {N : Nat} (hi : zins j pc = some (.anewarray i)) (hN : n.toNatClampNeg = N) (ha : zal (zown j) i = true) (hn : 0 ≤ n.toInt ∧ n.toInt ≤ 5000) (k : zR X d j (pc + 3) L (.ref (zK + h.1) :: r) (znew h N (.inl (5, N, .inr (.inr (.inr (.inr (fun _ => none))))))) u) : zR X d j pc L (.int n :: r) h u := zR.step (F := ((pc + 3), L, (.ref (zK + h.1) :: r), (znew h N (.inl (5, N, .inr (.inr (.inr (.inr (fun _ => none))))))))) hi rfl rfl rfl (by subst hN; show zs_anew pc (zown j) i L (.int n :: r) h = _; unfold zs_anew; dsimp only; rw [if_pos ⟨ha, hn⟩]) k
theorem zr_new {i ci : Nat} {fs : List Value} {N : Nat} (hi : zins j pc = some (.new i)) (hc : zcl (zown j) i = some ci) (hf : zdef ci = fs) (hN : fs.length = N) (k : zR X d j (pc + 3) L (.ref (zK + h.1) :: r) (znew h N (.inr (ci, fs))) u) : zR X d j pc L r h u := zR.step (F := ((pc + 3), L, (.ref (zK + h.1) :: r), (znew h N (.inr (ci, fs))))) hi rfl rfl rfl (by subst hf; subst hN; show zs_new pc (zown j) i L r h = _; unfold zs_new; rw [hc]) k
end ZR
end
section
/-! RULES for calls, by the number of arguments -/
section ZRC
variable {X : zX} {d j pc idx jj kd : Nat} {L : zL} {r : List Value} {h h1 : zH} {u : Option Value × zH}
theorem zr_cs0 {v : Value} (hi : zins j pc = some (.invokestatic idx)) (hm : zml (zown j) idx = some (kd, jj, 0)) (hk : kd = 2 ∨ kd = 3) (hs : (r.map fun v => v.category).sum ≤ 8) (hl : (zentl []).length ≤ zmaxL jj) (hc : zR X d jj 0 (zent (zmaxL jj) []) [] h ((some v), h1)) (k : zR X (d + 1) j (pc + 3) L (v :: r) h1 u) : zR X (d + 1) j pc L (r) h u := by
  rcases hk with rfl | rfl
  · exact zR.call (q := (2, jj, 0)) (As := []) (rest := r) hi rfl (by unfold zinv; dsimp only; rw [hm]; rfl) (by show (if ((r)).length < 0 then none else _) = _; rw [if_neg (by simp)]; show (if ((2 : Nat) = 2 ∨ (2 : Nat) = 3) then _ else _) = _; rw [if_pos (by decide)]; show (if (r.map fun v => v.category).sum ≤ 8 ∧ (zentl []).length ≤ zmaxL jj then _ else _) = _; rw [if_pos ⟨hs, hl⟩]; rfl) hc k
  · exact zR.call (q := (3, jj, 0)) (As := []) (rest := r) hi rfl (by unfold zinv; dsimp only; rw [hm]; rfl) (by show (if ((r)).length < 0 then none else _) = _; rw [if_neg (by simp)]; show (if ((3 : Nat) = 2 ∨ (3 : Nat) = 3) then _ else _) = _; rw [if_pos (by decide)]; show (if (r.map fun v => v.category).sum ≤ 8 ∧ (zentl []).length ≤ zmaxL jj then _ else _) = _; rw [if_pos ⟨hs, hl⟩]; rfl) hc k
theorem zr_cs00 (hi : zins j pc = some (.invokestatic idx)) (hm : zml (zown j) idx = some (kd, jj, 0)) (hk : kd = 2 ∨ kd = 3) (hs : (r.map fun v => v.category).sum ≤ 8) (hl : (zentl []).length ≤ zmaxL jj) (hc : zR X d jj 0 (zent (zmaxL jj) []) [] h (none, h1)) (k : zR X (d + 1) j (pc + 3) L r h1 u) : zR X (d + 1) j pc L (r) h u := by
  rcases hk with rfl | rfl
  · exact zR.call (q := (2, jj, 0)) (As := []) (rest := r) hi rfl (by unfold zinv; dsimp only; rw [hm]; rfl) (by show (if ((r)).length < 0 then none else _) = _; rw [if_neg (by simp)]; show (if ((2 : Nat) = 2 ∨ (2 : Nat) = 3) then _ else _) = _; rw [if_pos (by decide)]; show (if (r.map fun v => v.category).sum ≤ 8 ∧ (zentl []).length ≤ zmaxL jj then _ else _) = _; rw [if_pos ⟨hs, hl⟩]; rfl) hc k
  · exact zR.call (q := (3, jj, 0)) (As := []) (rest := r) hi rfl (by unfold zinv; dsimp only; rw [hm]; rfl) (by show (if ((r)).length < 0 then none else _) = _; rw [if_neg (by simp)]; show (if ((3 : Nat) = 2 ∨ (3 : Nat) = 3) then _ else _) = _; rw [if_pos (by decide)]; show (if (r.map fun v => v.category).sum ≤ 8 ∧ (zentl []).length ≤ zmaxL jj then _ else _) = _; rw [if_pos ⟨hs, hl⟩]; rfl) hc k
theorem zr_cs1 {a1 : Value} {v : Value} (hi : zins j pc = some (.invokestatic idx)) (hm : zml (zown j) idx = some (kd, jj, 1)) (hk : kd = 2 ∨ kd = 3) (hs : (r.map fun v => v.category).sum ≤ 8) (hl : (zentl [a1]).length ≤ zmaxL jj) (hc : zR X d jj 0 (zent (zmaxL jj) [a1]) [] h ((some v), h1)) (k : zR X (d + 1) j (pc + 3) L (v :: r) h1 u) : zR X (d + 1) j pc L (a1 :: r) h u := by
  rcases hk with rfl | rfl
  · exact zR.call (q := (2, jj, 1)) (As := [a1]) (rest := r) hi rfl (by unfold zinv; dsimp only; rw [hm]; rfl) (by show (if ((a1 :: r)).length < 1 then none else _) = _; rw [if_neg (by simp)]; show (if ((2 : Nat) = 2 ∨ (2 : Nat) = 3) then _ else _) = _; rw [if_pos (by decide)]; show (if (r.map fun v => v.category).sum ≤ 8 ∧ (zentl [a1]).length ≤ zmaxL jj then _ else _) = _; rw [if_pos ⟨hs, hl⟩]; rfl) hc k
  · exact zR.call (q := (3, jj, 1)) (As := [a1]) (rest := r) hi rfl (by unfold zinv; dsimp only; rw [hm]; rfl) (by show (if ((a1 :: r)).length < 1 then none else _) = _; rw [if_neg (by simp)]; show (if ((3 : Nat) = 2 ∨ (3 : Nat) = 3) then _ else _) = _; rw [if_pos (by decide)]; show (if (r.map fun v => v.category).sum ≤ 8 ∧ (zentl [a1]).length ≤ zmaxL jj then _ else _) = _; rw [if_pos ⟨hs, hl⟩]; rfl) hc k
theorem zr_cs10 {a1 : Value} (hi : zins j pc = some (.invokestatic idx)) (hm : zml (zown j) idx = some (kd, jj, 1)) (hk : kd = 2 ∨ kd = 3) (hs : (r.map fun v => v.category).sum ≤ 8) (hl : (zentl [a1]).length ≤ zmaxL jj) (hc : zR X d jj 0 (zent (zmaxL jj) [a1]) [] h (none, h1)) (k : zR X (d + 1) j (pc + 3) L r h1 u) : zR X (d + 1) j pc L (a1 :: r) h u := by
  rcases hk with rfl | rfl
  · exact zR.call (q := (2, jj, 1)) (As := [a1]) (rest := r) hi rfl (by unfold zinv; dsimp only; rw [hm]; rfl) (by show (if ((a1 :: r)).length < 1 then none else _) = _; rw [if_neg (by simp)]; show (if ((2 : Nat) = 2 ∨ (2 : Nat) = 3) then _ else _) = _; rw [if_pos (by decide)]; show (if (r.map fun v => v.category).sum ≤ 8 ∧ (zentl [a1]).length ≤ zmaxL jj then _ else _) = _; rw [if_pos ⟨hs, hl⟩]; rfl) hc k
  · exact zR.call (q := (3, jj, 1)) (As := [a1]) (rest := r) hi rfl (by unfold zinv; dsimp only; rw [hm]; rfl) (by show (if ((a1 :: r)).length < 1 then none else _) = _; rw [if_neg (by simp)]; show (if ((3 : Nat) = 2 ∨ (3 : Nat) = 3) then _ else _) = _; rw [if_pos (by decide)]; show (if (r.map fun v => v.category).sum ≤ 8 ∧ (zentl [a1]).length ≤ zmaxL jj then _ else _) = _; rw [if_pos ⟨hs, hl⟩]; rfl) hc k
theorem zr_cs2 {a1 a2 : Value} {v : Value} (hi : zins j pc = some (.invokestatic idx)) (hm : zml (zown j) idx = some (kd, jj, 2)) (hk : kd = 2 ∨ kd = 3) (hs : (r.map fun v => v.category).sum ≤ 8) (hl : (zentl [a1, a2]).length ≤ zmaxL jj) (hc : zR X d jj 0 (zent (zmaxL jj) [a1, a2]) [] h ((some v), h1)) (k : zR X (d + 1) j (pc + 3) L (v :: r) h1 u) : zR X (d + 1) j pc L (a2 :: a1 :: r) h u := by
  rcases hk with rfl | rfl
  · exact zR.call (q := (2, jj, 2)) (As := [a1, a2]) (rest := r) hi rfl (by unfold zinv; dsimp only; rw [hm]; rfl) (by show (if ((a2 :: a1 :: r)).length < 2 then none else _) = _; rw [if_neg (by simp)]; show (if ((2 : Nat) = 2 ∨ (2 : Nat) = 3) then _ else _) = _; rw [if_pos (by decide)]; show (if (r.map fun v => v.category).sum ≤ 8 ∧ (zentl [a1, a2]).length ≤ zmaxL jj then _ else _) = _; rw [if_pos ⟨hs, hl⟩]; rfl) hc k
  · exact zR.call (q := (3, jj, 2)) (As := [a1, a2]) (rest := r) hi rfl (by unfold zinv; dsimp only; rw [hm]; rfl) (by show (if ((a2 :: a1 :: r)).length < 2 then none else _) = _; rw [if_neg (by simp)]; show (if ((3 : Nat) = 2 ∨ (3 : Nat) = 3) then _ else _) = _; rw [if_pos (by decide)]; show (if (r.map fun v => v.category).sum ≤ 8 ∧ (zentl [a1, a2]).length ≤ zmaxL jj then _ else _) = _; rw [if_pos ⟨hs, hl⟩]; rfl) hc k
theorem zr_cs20 {a1 a2 : Value} (hi : zins j pc = some (.invokestatic idx)) (hm : zml (zown j) idx = some (kd, jj, 2)) (hk : kd = 2 ∨ kd = 3) (hs : (r.map fun v => v.category).sum ≤ 8) (hl : (zentl [a1, a2]).length ≤ zmaxL jj) (hc : zR X d jj 0 (zent (zmaxL jj) [a1, a2]) [] h (none, h1)) (k : zR X (d + 1) j (pc + 3) L r h1 u) : zR X (d + 1) j pc L (a2 :: a1 :: r) h u := by
  rcases hk with rfl | rfl
  · exact zR.call (q := (2, jj, 2)) (As := [a1, a2]) (rest := r) hi rfl (by unfold zinv; dsimp only; rw [hm]; rfl) (by show (if ((a2 :: a1 :: r)).length < 2 then none else _) = _; rw [if_neg (by simp)]; show (if ((2 : Nat) = 2 ∨ (2 : Nat) = 3) then _ else _) = _; rw [if_pos (by decide)]; show (if (r.map fun v => v.category).sum ≤ 8 ∧ (zentl [a1, a2]).length ≤ zmaxL jj then _ else _) = _; rw [if_pos ⟨hs, hl⟩]; rfl) hc k
  · exact zR.call (q := (3, jj, 2)) (As := [a1, a2]) (rest := r) hi rfl (by unfold zinv; dsimp only; rw [hm]; rfl) (by show (if ((a2 :: a1 :: r)).length < 2 then none else _) = _; rw [if_neg (by simp)]; show (if ((3 : Nat) = 2 ∨ (3 : Nat) = 3) then _ else _) = _; rw [if_pos (by decide)]; show (if (r.map fun v => v.category).sum ≤ 8 ∧ (zentl [a1, a2]).length ≤ zmaxL jj then _ else _) = _; rw [if_pos ⟨hs, hl⟩]; rfl) hc k
theorem zr_cs3 {a1 a2 a3 : Value} {v : Value} (hi : zins j pc = some (.invokestatic idx)) (hm : zml (zown j) idx = some (kd, jj, 3)) (hk : kd = 2 ∨ kd = 3) (hs : (r.map fun v => v.category).sum ≤ 8) (hl : (zentl [a1, a2, a3]).length ≤ zmaxL jj) (hc : zR X d jj 0 (zent (zmaxL jj) [a1, a2, a3]) [] h ((some v), h1)) (k : zR X (d + 1) j (pc + 3) L (v :: r) h1 u) : zR X (d + 1) j pc L (a3 :: a2 :: a1 :: r) h u := by
  rcases hk with rfl | rfl
  · exact zR.call (q := (2, jj, 3)) (As := [a1, a2, a3]) (rest := r) hi rfl (by unfold zinv; dsimp only; rw [hm]; rfl) (by show (if ((a3 :: a2 :: a1 :: r)).length < 3 then none else _) = _; rw [if_neg (by simp)]; show (if ((2 : Nat) = 2 ∨ (2 : Nat) = 3) then _ else _) = _; rw [if_pos (by decide)]; show (if (r.map fun v => v.category).sum ≤ 8 ∧ (zentl [a1, a2, a3]).length ≤ zmaxL jj then _ else _) = _; rw [if_pos ⟨hs, hl⟩]; rfl) hc k
  · exact zR.call (q := (3, jj, 3)) (As := [a1, a2, a3]) (rest := r) hi rfl (by unfold zinv; dsimp only; rw [hm]; rfl) (by show (if ((a3 :: a2 :: a1 :: r)).length < 3 then none else _) = _; rw [if_neg (by simp)]; show (if ((3 : Nat) = 2 ∨ (3 : Nat) = 3) then _ else _) = _; rw [if_pos (by decide)]; show (if (r.map fun v => v.category).sum ≤ 8 ∧ (zentl [a1, a2, a3]).length ≤ zmaxL jj then _ else _) = _; rw [if_pos ⟨hs, hl⟩]; rfl) hc k
theorem zr_cs30 {a1 a2 a3 : Value} (hi : zins j pc = some (.invokestatic idx)) (hm : zml (zown j) idx = some (kd, jj, 3)) (hk : kd = 2 ∨ kd = 3) (hs : (r.map fun v => v.category).sum ≤ 8) (hl : (zentl [a1, a2, a3]).length ≤ zmaxL jj) (hc : zR X d jj 0 (zent (zmaxL jj) [a1, a2, a3]) [] h (none, h1)) (k : zR X (d + 1) j (pc + 3) L r h1 u) : zR X (d + 1) j pc L (a3 :: a2 :: a1 :: r) h u := by
  rcases hk with rfl | rfl
  · exact zR.call (q := (2, jj, 3)) (As := [a1, a2, a3]) (rest := r) hi rfl (by unfold zinv; dsimp only; rw [hm]; rfl) (by show (if ((a3 :: a2 :: a1 :: r)).length < 3 then none else _) = _; rw [if_neg (by simp)]; show (if ((2 : Nat) = 2 ∨ (2 : Nat) = 3) then _ else _) = _; rw [if_pos (by decide)]; show (if (r.map fun v => v.category).sum ≤ 8 ∧ (zentl [a1, a2, a3]).length ≤ zmaxL jj then _ else _) = _; rw [if_pos ⟨hs, hl⟩]; rfl) hc k
  · exact zR.call (q := (3, jj, 3)) (As := [a1, a2, a3]) (rest := r) hi rfl (by unfold zinv; dsimp only; rw [hm]; rfl) (by show (if ((a3 :: a2 :: a1 :: r)).length < 3 then none else _) = _; rw [if_neg (by simp)]; show (if ((3 : Nat) = 2 ∨ (3 : Nat) = 3) then _ else _) = _; rw [if_pos (by decide)]; show (if (r.map fun v => v.category).sum ≤ 8 ∧ (zentl [a1, a2, a3]).length ≤ zmaxL jj then _ else _) = _; rw [if_pos ⟨hs, hl⟩]; rfl) hc k
theorem zr_cs4 {a1 a2 a3 a4 : Value} {v : Value} (hi : zins j pc = some (.invokestatic idx)) (hm : zml (zown j) idx = some (kd, jj, 4)) (hk : kd = 2 ∨ kd = 3) (hs : (r.map fun v => v.category).sum ≤ 8) (hl : (zentl [a1, a2, a3, a4]).length ≤ zmaxL jj) (hc : zR X d jj 0 (zent (zmaxL jj) [a1, a2, a3, a4]) [] h ((some v), h1)) (k : zR X (d + 1) j (pc + 3) L (v :: r) h1 u) : zR X (d + 1) j pc L (a4 :: a3 :: a2 :: a1 :: r) h u := by
  rcases hk with rfl | rfl
  · exact zR.call (q := (2, jj, 4)) (As := [a1, a2, a3, a4]) (rest := r) hi rfl (by unfold zinv; dsimp only; rw [hm]; rfl) (by show (if ((a4 :: a3 :: a2 :: a1 :: r)).length < 4 then none else _) = _; rw [if_neg (by simp)]; show (if ((2 : Nat) = 2 ∨ (2 : Nat) = 3) then _ else _) = _; rw [if_pos (by decide)]; show (if (r.map fun v => v.category).sum ≤ 8 ∧ (zentl [a1, a2, a3, a4]).length ≤ zmaxL jj then _ else _) = _; rw [if_pos ⟨hs, hl⟩]; rfl) hc k
  · exact zR.call (q := (3, jj, 4)) (As := [a1, a2, a3, a4]) (rest := r) hi rfl (by unfold zinv; dsimp only; rw [hm]; rfl) (by show (if ((a4 :: a3 :: a2 :: a1 :: r)).length < 4 then none else _) = _; rw [if_neg (by simp)]; show (if ((3 : Nat) = 2 ∨ (3 : Nat) = 3) then _ else _) = _; rw [if_pos (by decide)]; show (if (r.map fun v => v.category).sum ≤ 8 ∧ (zentl [a1, a2, a3, a4]).length ≤ zmaxL jj then _ else _) = _; rw [if_pos ⟨hs, hl⟩]; rfl) hc k
theorem zr_cs40 {a1 a2 a3 a4 : Value} (hi : zins j pc = some (.invokestatic idx)) (hm : zml (zown j) idx = some (kd, jj, 4)) (hk : kd = 2 ∨ kd = 3) (hs : (r.map fun v => v.category).sum ≤ 8) (hl : (zentl [a1, a2, a3, a4]).length ≤ zmaxL jj) (hc : zR X d jj 0 (zent (zmaxL jj) [a1, a2, a3, a4]) [] h (none, h1)) (k : zR X (d + 1) j (pc + 3) L r h1 u) : zR X (d + 1) j pc L (a4 :: a3 :: a2 :: a1 :: r) h u := by
  rcases hk with rfl | rfl
  · exact zR.call (q := (2, jj, 4)) (As := [a1, a2, a3, a4]) (rest := r) hi rfl (by unfold zinv; dsimp only; rw [hm]; rfl) (by show (if ((a4 :: a3 :: a2 :: a1 :: r)).length < 4 then none else _) = _; rw [if_neg (by simp)]; show (if ((2 : Nat) = 2 ∨ (2 : Nat) = 3) then _ else _) = _; rw [if_pos (by decide)]; show (if (r.map fun v => v.category).sum ≤ 8 ∧ (zentl [a1, a2, a3, a4]).length ≤ zmaxL jj then _ else _) = _; rw [if_pos ⟨hs, hl⟩]; rfl) hc k
  · exact zR.call (q := (3, jj, 4)) (As := [a1, a2, a3, a4]) (rest := r) hi rfl (by unfold zinv; dsimp only; rw [hm]; rfl) (by show (if ((a4 :: a3 :: a2 :: a1 :: r)).length < 4 then none else _) = _; rw [if_neg (by simp)]; show (if ((3 : Nat) = 2 ∨ (3 : Nat) = 3) then _ else _) = _; rw [if_pos (by decide)]; show (if (r.map fun v => v.category).sum ≤ 8 ∧ (zentl [a1, a2, a3, a4]).length ≤ zmaxL jj then _ else _) = _; rw [if_pos ⟨hs, hl⟩]; rfl) hc k
theorem zr_cs5 {a1 a2 a3 a4 a5 : Value} {v : Value} (hi : zins j pc = some (.invokestatic idx)) (hm : zml (zown j) idx = some (kd, jj, 5)) (hk : kd = 2 ∨ kd = 3) (hs : (r.map fun v => v.category).sum ≤ 8) (hl : (zentl [a1, a2, a3, a4, a5]).length ≤ zmaxL jj) (hc : zR X d jj 0 (zent (zmaxL jj) [a1, a2, a3, a4, a5]) [] h ((some v), h1)) (k : zR X (d + 1) j (pc + 3) L (v :: r) h1 u) : zR X (d + 1) j pc L (a5 :: a4 :: a3 :: a2 :: a1 :: r) h u := by
  rcases hk with rfl | rfl
  · exact zR.call (q := (2, jj, 5)) (As := [a1, a2, a3, a4, a5]) (rest := r) hi rfl (by unfold zinv; dsimp only; rw [hm]; rfl) (by show (if ((a5 :: a4 :: a3 :: a2 :: a1 :: r)).length < 5 then none else _) = _; rw [if_neg (by simp)]; show (if ((2 : Nat) = 2 ∨ (2 : Nat) = 3) then _ else _) = _; rw [if_pos (by decide)]; show (if (r.map fun v => v.category).sum ≤ 8 ∧ (zentl [a1, a2, a3, a4, a5]).length ≤ zmaxL jj then _ else _) = _; rw [if_pos ⟨hs, hl⟩]; rfl) hc k
  · exact zR.call (q := (3, jj, 5)) (As := [a1, a2, a3, a4, a5]) (rest := r) hi rfl (by unfold zinv; dsimp only; rw [hm]; rfl) (by show (if ((a5 :: a4 :: a3 :: a2 :: a1 :: r)).length < 5 then none else _) = _; rw [if_neg (by simp)]; show (if ((3 : Nat) = 2 ∨ (3 : Nat) = 3) then _ else _) = _; rw [if_pos (by decide)]; show (if (r.map fun v => v.category).sum ≤ 8 ∧ (zentl [a1, a2, a3, a4, a5]).length ≤ zmaxL jj then _ else _) = _; rw [if_pos ⟨hs, hl⟩]; rfl) hc k
theorem zr_cs50 {a1 a2 a3 a4 a5 : Value} (hi : zins j pc = some (.invokestatic idx)) (hm : zml (zown j) idx = some (kd, jj, 5)) (hk : kd = 2 ∨ kd = 3) (hs : (r.map fun v => v.category).sum ≤ 8) (hl : (zentl [a1, a2, a3, a4, a5]).length ≤ zmaxL jj) (hc : zR X d jj 0 (zent (zmaxL jj) [a1, a2, a3, a4, a5]) [] h (none, h1)) (k : zR X (d + 1) j (pc + 3) L r h1 u) : zR X (d + 1) j pc L (a5 :: a4 :: a3 :: a2 :: a1 :: r) h u := by
  rcases hk with rfl | rfl
  · exact zR.call (q := (2, jj, 5)) (As := [a1, a2, a3, a4, a5]) (rest := r) hi rfl (by unfold zinv; dsimp only; rw [hm]; rfl) (by show (if ((a5 :: a4 :: a3 :: a2 :: a1 :: r)).length < 5 then none else _) = _; rw [if_neg (by simp)]; show (if ((2 : Nat) = 2 ∨ (2 : Nat) = 3) then _ else _) = _; rw [if_pos (by decide)]; show (if (r.map fun v => v.category).sum ≤ 8 ∧ (zentl [a1, a2, a3, a4, a5]).length ≤ zmaxL jj then _ else _) = _; rw [if_pos ⟨hs, hl⟩]; rfl) hc k
  · exact zR.call (q := (3, jj, 5)) (As := [a1, a2, a3, a4, a5]) (rest := r) hi rfl (by unfold zinv; dsimp only; rw [hm]; rfl) (by show (if ((a5 :: a4 :: a3 :: a2 :: a1 :: r)).length < 5 then none else _) = _; rw [if_neg (by simp)]; show (if ((3 : Nat) = 2 ∨ (3 : Nat) = 3) then _ else _) = _; rw [if_pos (by decide)]; show (if (r.map fun v => v.category).sum ≤ 8 ∧ (zentl [a1, a2, a3, a4, a5]).length ≤ zmaxL jj then _ else _) = _; rw [if_pos ⟨hs, hl⟩]; rfl) hc k
theorem zr_cs6 {a1 a2 a3 a4 a5 a6 : Value} {v : Value} (hi : zins j pc = some (.invokestatic idx)) (hm : zml (zown j) idx = some (kd, jj, 6)) (hk : kd = 2 ∨ kd = 3) (hs : (r.map fun v => v.category).sum ≤ 8) (hl : (zentl [a1, a2, a3, a4, a5, a6]).length ≤ zmaxL jj) (hc : zR X d jj 0 (zent (zmaxL jj) [a1, a2, a3, a4, a5, a6]) [] h ((some v), h1)) (k : zR X (d + 1) j (pc + 3) L (v :: r) h1 u) : zR X (d + 1) j pc L (a6 :: a5 :: a4 :: a3 :: a2 :: a1 :: r) h u := by
  rcases hk with rfl | rfl
  · exact zR.call (q := (2, jj, 6)) (As := [a1, a2, a3, a4, a5, a6]) (rest := r) hi rfl (by unfold zinv; dsimp only; rw [hm]; rfl) (by show (if ((a6 :: a5 :: a4 :: a3 :: a2 :: a1 :: r)).length < 6 then none else _) = _; rw [if_neg (by simp)]; show (if ((2 : Nat) = 2 ∨ (2 : Nat) = 3) then _ else _) = _; rw [if_pos (by decide)]; show (if (r.map fun v => v.category).sum ≤ 8 ∧ (zentl [a1, a2, a3, a4, a5, a6]).length ≤ zmaxL jj then _ else _) = _; rw [if_pos ⟨hs, hl⟩]; rfl) hc k
  · exact zR.call (q := (3, jj, 6)) (As := [a1, a2, a3, a4, a5, a6]) (rest := r) hi rfl (by unfold zinv; dsimp only; rw [hm]; rfl) (by show (if ((a6 :: a5 :: a4 :: a3 :: a2 :: a1 :: r)).length < 6 then none else _) = _; rw [if_neg (by simp)]; show (if ((3 : Nat) = 2 ∨ (3 : Nat) = 3) then _ else _) = _; rw [if_pos (by decide)]; show (if (r.map fun v => v.category).sum ≤ 8 ∧ (zentl [a1, a2, a3, a4, a5, a6]).length ≤ zmaxL jj then _ else _) = _; rw [if_pos ⟨hs, hl⟩]; rfl) hc k
theorem zr_cs60 {a1 a2 a3 a4 a5 a6 : Value} (hi : zins j pc = some (.invokestatic idx)) (hm : zml (zown j) idx = some (kd, jj, 6)) (hk : kd = 2 ∨ kd = 3) (hs : (r.map fun v => v.category).sum ≤ 8) (hl : (zentl [a1, a2, a3, a4, a5, a6]).length ≤ zmaxL jj) (hc : zR X d jj 0 (zent (zmaxL jj) [a1, a2, a3, a4, a5, a6]) [] h (none, h1)) (k : zR X (d + 1) j (pc + 3) L r h1 u) : zR X (d + 1) j pc L (a6 :: a5 :: a4 :: a3 :: a2 :: a1 :: r) h u := by
  rcases hk with rfl | rfl
  · exact zR.call (q := (2, jj, 6)) (As := [a1, a2, a3, a4, a5, a6]) (rest := r) hi rfl (by unfold zinv; dsimp only; rw [hm]; rfl) (by show (if ((a6 :: a5 :: a4 :: a3 :: a2 :: a1 :: r)).length < 6 then none else _) = _; rw [if_neg (by simp)]; show (if ((2 : Nat) = 2 ∨ (2 : Nat) = 3) then _ else _) = _; rw [if_pos (by decide)]; show (if (r.map fun v => v.category).sum ≤ 8 ∧ (zentl [a1, a2, a3, a4, a5, a6]).length ≤ zmaxL jj then _ else _) = _; rw [if_pos ⟨hs, hl⟩]; rfl) hc k
  · exact zR.call (q := (3, jj, 6)) (As := [a1, a2, a3, a4, a5, a6]) (rest := r) hi rfl (by unfold zinv; dsimp only; rw [hm]; rfl) (by show (if ((a6 :: a5 :: a4 :: a3 :: a2 :: a1 :: r)).length < 6 then none else _) = _; rw [if_neg (by simp)]; show (if ((3 : Nat) = 2 ∨ (3 : Nat) = 3) then _ else _) = _; rw [if_pos (by decide)]; show (if (r.map fun v => v.category).sum ≤ 8 ∧ (zentl [a1, a2, a3, a4, a5, a6]).length ≤ zmaxL jj then _ else _) = _; rw [if_pos ⟨hs, hl⟩]; rfl) hc k
theorem zr_cv0 {b : Nat} {v : Value} (hi : zins j pc = some (.invokevirtual idx)) (hm : zml (zown j) idx = some (kd, jj, 0)) (hk : kd = 0 ∨ kd = 1) (hr : zrcv h b = some (zown jj)) (hs : (r.map fun v => v.category).sum ≤ 8) (hl : (zentl [.ref b]).length ≤ zmaxL jj) (hc : zR X d jj 0 (zent (zmaxL jj) [.ref b]) [] h ((some v), h1)) (k : zR X (d + 1) j (pc + 3) L (v :: r) h1 u) : zR X (d + 1) j pc L (.ref b :: r) h u := by
  rcases hk with rfl | rfl
  · exact zR.call (q := (0, jj, 0)) (As := [.ref b]) (rest := r) hi rfl (by unfold zinv; dsimp only; rw [hm]; rfl) (by show (if ((.ref b :: r)).length < 0 then none else _) = _; rw [if_neg (by simp)]; show (if ((0 : Nat) = 2 ∨ (0 : Nat) = 3) then _ else _) = _; rw [if_neg (by decide)]; show (if (r.map fun v => v.category).sum ≤ 8 ∧ (zentl [.ref b]).length ≤ zmaxL jj ∧ ((0 : Nat) = 4 ∨ (0 : Nat) = 5 ∨ zrcv h b = some (zown jj)) then _ else _) = _; rw [if_pos ⟨hs, hl, Or.inr (Or.inr hr)⟩]; rfl) hc k
  · exact zR.call (q := (1, jj, 0)) (As := [.ref b]) (rest := r) hi rfl (by unfold zinv; dsimp only; rw [hm]; rfl) (by show (if ((.ref b :: r)).length < 0 then none else _) = _; rw [if_neg (by simp)]; show (if ((1 : Nat) = 2 ∨ (1 : Nat) = 3) then _ else _) = _; rw [if_neg (by decide)]; show (if (r.map fun v => v.category).sum ≤ 8 ∧ (zentl [.ref b]).length ≤ zmaxL jj ∧ ((1 : Nat) = 4 ∨ (1 : Nat) = 5 ∨ zrcv h b = some (zown jj)) then _ else _) = _; rw [if_pos ⟨hs, hl, Or.inr (Or.inr hr)⟩]; rfl) hc k
theorem zr_cv00 {b : Nat} (hi : zins j pc = some (.invokevirtual idx)) (hm : zml (zown j) idx = some (kd, jj, 0)) (hk : kd = 0 ∨ kd = 1) (hr : zrcv h b = some (zown jj)) (hs : (r.map fun v => v.category).sum ≤ 8) (hl : (zentl [.ref b]).length ≤ zmaxL jj) (hc : zR X d jj 0 (zent (zmaxL jj) [.ref b]) [] h (none, h1)) (k : zR X (d + 1) j (pc + 3) L r h1 u) : zR X (d + 1) j pc L (.ref b :: r) h u := by
  rcases hk with rfl | rfl
  · exact zR.call (q := (0, jj, 0)) (As := [.ref b]) (rest := r) hi rfl (by unfold zinv; dsimp only; rw [hm]; rfl) (by show (if ((.ref b :: r)).length < 0 then none else _) = _; rw [if_neg (by simp)]; show (if ((0 : Nat) = 2 ∨ (0 : Nat) = 3) then _ else _) = _; rw [if_neg (by decide)]; show (if (r.map fun v => v.category).sum ≤ 8 ∧ (zentl [.ref b]).length ≤ zmaxL jj ∧ ((0 : Nat) = 4 ∨ (0 : Nat) = 5 ∨ zrcv h b = some (zown jj)) then _ else _) = _; rw [if_pos ⟨hs, hl, Or.inr (Or.inr hr)⟩]; rfl) hc k
  · exact zR.call (q := (1, jj, 0)) (As := [.ref b]) (rest := r) hi rfl (by unfold zinv; dsimp only; rw [hm]; rfl) (by show (if ((.ref b :: r)).length < 0 then none else _) = _; rw [if_neg (by simp)]; show (if ((1 : Nat) = 2 ∨ (1 : Nat) = 3) then _ else _) = _; rw [if_neg (by decide)]; show (if (r.map fun v => v.category).sum ≤ 8 ∧ (zentl [.ref b]).length ≤ zmaxL jj ∧ ((1 : Nat) = 4 ∨ (1 : Nat) = 5 ∨ zrcv h b = some (zown jj)) then _ else _) = _; rw [if_pos ⟨hs, hl, Or.inr (Or.inr hr)⟩]; rfl) hc k
theorem zr_cv1 {a1 : Value} {b : Nat} {v : Value} (hi : zins j pc = some (.invokevirtual idx)) (hm : zml (zown j) idx = some (kd, jj, 1)) (hk : kd = 0 ∨ kd = 1) (hr : zrcv h b = some (zown jj)) (hs : (r.map fun v => v.category).sum ≤ 8) (hl : (zentl [.ref b, a1]).length ≤ zmaxL jj) (hc : zR X d jj 0 (zent (zmaxL jj) [.ref b, a1]) [] h ((some v), h1)) (k : zR X (d + 1) j (pc + 3) L (v :: r) h1 u) : zR X (d + 1) j pc L (a1 :: .ref b :: r) h u := by
  rcases hk with rfl | rfl
  · exact zR.call (q := (0, jj, 1)) (As := [.ref b, a1]) (rest := r) hi rfl (by unfold zinv; dsimp only; rw [hm]; rfl) (by show (if ((a1 :: .ref b :: r)).length < 1 then none else _) = _; rw [if_neg (by simp)]; show (if ((0 : Nat) = 2 ∨ (0 : Nat) = 3) then _ else _) = _; rw [if_neg (by decide)]; show (if (r.map fun v => v.category).sum ≤ 8 ∧ (zentl [.ref b, a1]).length ≤ zmaxL jj ∧ ((0 : Nat) = 4 ∨ (0 : Nat) = 5 ∨ zrcv h b = some (zown jj)) then _ else _) = _; rw [if_pos ⟨hs, hl, Or.inr (Or.inr hr)⟩]; rfl) hc k
  · exact zR.call (q := (1, jj, 1)) (As := [.ref b, a1]) (rest := r) hi rfl (by unfold zinv; dsimp only; rw [hm]; rfl) (by show (if ((a1 :: .ref b :: r)).length < 1 then none else _) = _; rw [if_neg (by simp)]; show (if ((1 : Nat) = 2 ∨ (1 : Nat) = 3) then _ else _) = _; rw [if_neg (by decide)]; show (if (r.map fun v => v.category).sum ≤ 8 ∧ (zentl [.ref b, a1]).length ≤ zmaxL jj ∧ ((1 : Nat) = 4 ∨ (1 : Nat) = 5 ∨ zrcv h b = some (zown jj)) then _ else _) = _; rw [if_pos ⟨hs, hl, Or.inr (Or.inr hr)⟩]; rfl) hc k
theorem zr_cv10 {a1 : Value} {b : Nat} (hi : zins j pc = some (.invokevirtual idx)) (hm : zml (zown j) idx = some (kd, jj, 1)) (hk : kd = 0 ∨ kd = 1) (hr : zrcv h b = some (zown jj)) (hs : (r.map fun v => v.category).sum ≤ 8) (hl : (zentl [.ref b, a1]).length ≤ zmaxL jj) (hc : zR X d jj 0 (zent (zmaxL jj) [.ref b, a1]) [] h (none, h1)) (k : zR X (d + 1) j (pc + 3) L r h1 u) : zR X (d + 1) j pc L (a1 :: .ref b :: r) h u := by
  rcases hk with rfl | rfl
  · exact zR.call (q := (0, jj, 1)) (As := [.ref b, a1]) (rest := r) hi rfl (by unfold zinv; dsimp only; rw [hm]; rfl) (by show (if ((a1 :: .ref b :: r)).length < 1 then none else _) = _; rw [if_neg (by simp)]; show (if ((0 : Nat) = 2 ∨ (0 : Nat) = 3) then _ else _) = _; rw [if_neg (by decide)]; show (if (r.map fun v => v.category).sum ≤ 8 ∧ (zentl [.ref b, a1]).length ≤ zmaxL jj ∧ ((0 : Nat) = 4 ∨ (0 : Nat) = 5 ∨ zrcv h b = some (zown jj)) then _ else _) = _; rw [if_pos ⟨hs, hl, Or.inr (Or.inr hr)⟩]; rfl) hc k
  · exact zR.call (q := (1, jj, 1)) (As := [.ref b, a1]) (rest := r) hi rfl (by unfold zinv; dsimp only; rw [hm]; rfl) (by show (if ((a1 :: .ref b :: r)).length < 1 then none else _) = _; rw [if_neg (by simp)]; show (if ((1 : Nat) = 2 ∨ (1 : Nat) = 3) then _ else _) = _; rw [if_neg (by decide)]; show (if (r.map fun v => v.category).sum ≤ 8 ∧ (zentl [.ref b, a1]).length ≤ zmaxL jj ∧ ((1 : Nat) = 4 ∨ (1 : Nat) = 5 ∨ zrcv h b = some (zown jj)) then _ else _) = _; rw [if_pos ⟨hs, hl, Or.inr (Or.inr hr)⟩]; rfl) hc k
theorem zr_cv2 {a1 a2 : Value} {b : Nat} {v : Value} (hi : zins j pc = some (.invokevirtual idx)) (hm : zml (zown j) idx = some (kd, jj, 2)) (hk : kd = 0 ∨ kd = 1) (hr : zrcv h b = some (zown jj)) (hs : (r.map fun v => v.category).sum ≤ 8) (hl : (zentl [.ref b, a1, a2]).length ≤ zmaxL jj) (hc : zR X d jj 0 (zent (zmaxL jj) [.ref b, a1, a2]) [] h ((some v), h1)) (k : zR X (d + 1) j (pc + 3) L (v :: r) h1 u) : zR X (d + 1) j pc L (a2 :: a1 :: .ref b :: r) h u := by
  rcases hk with rfl | rfl
  · exact zR.call (q := (0, jj, 2)) (As := [.ref b, a1, a2]) (rest := r) hi rfl (by unfold zinv; dsimp only; rw [hm]; rfl) (by show (if ((a2 :: a1 :: .ref b :: r)).length < 2 then none else _) = _; rw [if_neg (by simp)]; show (if ((0 : Nat) = 2 ∨ (0 : Nat) = 3) then _ else _) = _; rw [if_neg (by decide)]; show (if (r.map fun v => v.category).sum ≤ 8 ∧ (zentl [.ref b, a1, a2]).length ≤ zmaxL jj ∧ ((0 : Nat) = 4 ∨ (0 : Nat) = 5 ∨ zrcv h b = some (zown jj)) then _ else _) = _; rw [if_pos ⟨hs, hl, Or.inr (Or.inr hr)⟩]; rfl) hc k
  · exact zR.call (q := (1, jj, 2)) (As := [.ref b, a1, a2]) (rest := r) hi rfl (by unfold zinv; dsimp only; rw [hm]; rfl) (by show (if ((a2 :: a1 :: .ref b :: r)).length < 2 then none else _) = _; rw [if_neg (by simp)]; show (if ((1 : Nat) = 2 ∨ (1 : Nat) = 3) then _ else _) = _; rw [if_neg (by decide)]; show (if (r.map fun v => v.category).sum ≤ 8 ∧ (zentl [.ref b, a1, a2]).length ≤ zmaxL jj ∧ ((1 : Nat) = 4 ∨ (1 : Nat) = 5 ∨ zrcv h b = some (zown jj)) then _ else _) = _; rw [if_pos ⟨hs, hl, Or.inr (Or.inr hr)⟩]; rfl) hc k
theorem zr_cv20 {a1 a2 : Value} {b : Nat} (hi : zins j pc = some (.invokevirtual idx)) (hm : zml (zown j) idx = some (kd, jj, 2)) (hk : kd = 0 ∨ kd = 1) (hr : zrcv h b = some (zown jj)) (hs : (r.map fun v => v.category).sum ≤ 8) (hl : (zentl [.ref b, a1, a2]).length ≤ zmaxL jj) (hc : zR X d jj 0 (zent (zmaxL jj) [.ref b, a1, a2]) [] h (none, h1)) (k : zR X (d + 1) j (pc + 3) L r h1 u) : zR X (d + 1) j pc L (a2 :: a1 :: .ref b :: r) h u := by
  rcases hk with rfl | rfl
  · exact zR.call (q := (0, jj, 2)) (As := [.ref b, a1, a2]) (rest := r) hi rfl (by unfold zinv; dsimp only; rw [hm]; rfl) (by show (if ((a2 :: a1 :: .ref b :: r)).length < 2 then none else _) = _; rw [if_neg (by simp)]; show (if ((0 : Nat) = 2 ∨ (0 : Nat) = 3) then _ else _) = _; rw [if_neg (by decide)]; show (if (r.map fun v => v.category).sum ≤ 8 ∧ (zentl [.ref b, a1, a2]).length ≤ zmaxL jj ∧ ((0 : Nat) = 4 ∨ (0 : Nat) = 5 ∨ zrcv h b = some (zown jj)) then _ else _) = _; rw [if_pos ⟨hs, hl, Or.inr (Or.inr hr)⟩]; rfl) hc k
  · exact zR.call (q := (1, jj, 2)) (As := [.ref b, a1, a2]) (rest := r) hi rfl (by unfold zinv; dsimp only; rw [hm]; rfl) (by show (if ((a2 :: a1 :: .ref b :: r)).length < 2 then none else _) = _; rw [if_neg (by simp)]; show (if ((1 : Nat) = 2 ∨ (1 : Nat) = 3) then _ else _) = _; rw [if_neg (by decide)]; show (if (r.map fun v => v.category).sum ≤ 8 ∧ (zentl [.ref b, a1, a2]).length ≤ zmaxL jj ∧ ((1 : Nat) = 4 ∨ (1 : Nat) = 5 ∨ zrcv h b = some (zown jj)) then _ else _) = _; rw [if_pos ⟨hs, hl, Or.inr (Or.inr hr)⟩]; rfl) hc k
theorem zr_cv3 {a1 a2 a3 : Value} {b : Nat} {v : Value} (hi : zins j pc = some (.invokevirtual idx)) (hm : zml (zown j) idx = some (kd, jj, 3)) (hk : kd = 0 ∨ kd = 1) (hr : zrcv h b = some (zown jj)) (hs : (r.map fun v => v.category).sum ≤ 8) (hl : (zentl [.ref b, a1, a2, a3]).length ≤ zmaxL jj) (hc : zR X d jj 0 (zent (zmaxL jj) [.ref b, a1, a2, a3]) [] h ((some v), h1)) (k : zR X (d + 1) j (pc + 3) L (v :: r) h1 u) : zR X (d + 1) j pc L (a3 :: a2 :: a1 :: .ref b :: r) h u := by
  rcases hk with rfl | rfl
  · exact zR.call (q := (0, jj, 3)) (As := [.ref b, a1, a2, a3]) (rest := r) hi rfl (by unfold zinv; dsimp only; rw [hm]; rfl) (by show (if ((a3 :: a2 :: a1 :: .ref b :: r)).length < 3 then none else _) = _; rw [if_neg (by simp)]; show (if ((0 : Nat) = 2 ∨ (0 : Nat) = 3) then _ else _) = _; rw [if_neg (by decide)]; show (if (r.map fun v => v.category).sum ≤ 8 ∧ (zentl [.ref b, a1, a2, a3]).length ≤ zmaxL jj ∧ ((0 : Nat) = 4 ∨ (0 : Nat) = 5 ∨ zrcv h b = some (zown jj)) then _ else _) = _; rw [if_pos ⟨hs, hl, Or.inr (Or.inr hr)⟩]; rfl) hc k
  · exact zR.call (q := (1, jj, 3)) (As := [.ref b, a1, a2, a3]) (rest := r) hi rfl (by unfold zinv; dsimp only; rw [hm]; rfl) (by show (if ((a3 :: a2 :: a1 :: .ref b :: r)).length < 3 then none else _) = _; rw [if_neg (by simp)]; show (if ((1 : Nat) = 2 ∨ (1 : Nat) = 3) then _ else _) = _; rw [if_neg (by decide)]; show (if (r.map fun v => v.category).sum ≤ 8 ∧ (zentl [.ref b, a1, a2, a3]).length ≤ zmaxL jj ∧ ((1 : Nat) = 4 ∨ (1 : Nat) = 5 ∨ zrcv h b = some (zown jj)) then _ else _) = _; rw [if_pos ⟨hs, hl, Or.inr (Or.inr hr)⟩]; rfl) hc k
theorem zr_cv30 {a1 a2 a3 : Value} {b : Nat} (hi : zins j pc = some (.invokevirtual idx)) (hm : zml (zown j) idx = some (kd, jj, 3)) (hk : kd = 0 ∨ kd = 1) (hr : zrcv h b = some (zown jj)) (hs : (r.map fun v => v.category).sum ≤ 8) (hl : (zentl [.ref b, a1, a2, a3]).length ≤ zmaxL jj) (hc : zR X d jj 0 (zent (zmaxL jj) [.ref b, a1, a2, a3]) [] h (none, h1)) (k : zR X (d + 1) j (pc + 3) L r h1 u) : zR X (d + 1) j pc L (a3 :: a2 :: a1 :: .ref b :: r) h u := by
  rcases hk with rfl | rfl
  · exact zR.call (q := (0, jj, 3)) (As := [.ref b, a1, a2, a3]) (rest := r) hi rfl (by unfold zinv; dsimp only; rw [hm]; rfl) (by show (if ((a3 :: a2 :: a1 :: .ref b :: r)).length < 3 then none else _) = _; rw [if_neg (by simp)]; show (if ((0 : Nat) = 2 ∨ (0 : Nat) = 3) then _ else _) = _; rw [if_neg (by decide)]; show (if (r.map fun v => v.category).sum ≤ 8 ∧ (zentl [.ref b, a1, a2, a3]).length ≤ zmaxL jj ∧ ((0 : Nat) = 4 ∨ (0 : Nat) = 5 ∨ zrcv h b = some (zown jj)) then _ else _) = _; rw [if_pos ⟨hs, hl, Or.inr (Or.inr hr)⟩]; rfl) hc k
  · exact zR.call (q := (1, jj, 3)) (As := [.ref b, a1, a2, a3]) (rest := r) hi rfl (by unfold zinv; dsimp only; rw [hm]; rfl) (by show (if ((a3 :: a2 :: a1 :: .ref b :: r)).length < 3 then none else _) = _; rw [if_neg (by simp)]; show (if ((1 : Nat) = 2 ∨ (1 : Nat) = 3) then _ else _) = _; rw [if_neg (by decide)]; show (if (r.map fun v => v.category).sum ≤ 8 ∧ (zentl [.ref b, a1, a2, a3]).length ≤ zmaxL jj ∧ ((1 : Nat) = 4 ∨ (1 : Nat) = 5 ∨ zrcv h b = some (zown jj)) then _ else _) = _; rw [if_pos ⟨hs, hl, Or.inr (Or.inr hr)⟩]; rfl) hc k
theorem zr_cv4 {a1 a2 a3 a4 : Value} {b : Nat} {v : Value} (hi : zins j pc = some (.invokevirtual idx)) (hm : zml (zown j) idx = some (kd, jj, 4)) (hk : kd = 0 ∨ kd = 1) (hr : zrcv h b = some (zown jj)) (hs : (r.map fun v => v.category).sum ≤ 8) (hl : (zentl [.ref b, a1, a2, a3, a4]).length ≤ zmaxL jj) (hc : zR X d jj 0 (zent (zmaxL jj) [.ref b, a1, a2, a3, a4]) [] h ((some v), h1)) (k : zR X (d + 1) j (pc + 3) L (v :: r) h1 u) : zR X (d + 1) j pc L (a4 :: a3 :: a2 :: a1 :: .ref b :: r) h u := by
  rcases hk with rfl | rfl
  · exact zR.call (q := (0, jj, 4)) (As := [.ref b, a1, a2, a3, a4]) (rest := r) hi rfl (by unfold zinv; dsimp only; rw [hm]; rfl) (by show (if ((a4 :: a3 :: a2 :: a1 :: .ref b :: r)).length < 4 then none else _) = _; rw [if_neg (by simp)]; show (if ((0 : Nat) = 2 ∨ (0 : Nat) = 3) then _ else _) = _; rw [if_neg (by decide)]; show (if (r.map fun v => v.category).sum ≤ 8 ∧ (zentl [.ref b, a1, a2, a3, a4]).length ≤ zmaxL jj ∧ ((0 : Nat) = 4 ∨ (0 : Nat) = 5 ∨ zrcv h b = some (zown jj)) then _ else _) = _; rw [if_pos ⟨hs, hl, Or.inr (Or.inr hr)⟩]; rfl) hc k
  · exact zR.call (q := (1, jj, 4)) (As := [.ref b, a1, a2, a3, a4]) (rest := r) hi rfl (by unfold zinv; dsimp only; rw [hm]; rfl) (by show (if ((a4 :: a3 :: a2 :: a1 :: .ref b :: r)).length < 4 then none else _) = _; rw [if_neg (by simp)]; show (if ((1 : Nat) = 2 ∨ (1 : Nat) = 3) then _ else _) = _; rw [if_neg (by decide)]; show (if (r.map fun v => v.category).sum ≤ 8 ∧ (zentl [.ref b, a1, a2, a3, a4]).length ≤ zmaxL jj ∧ ((1 : Nat) = 4 ∨ (1 : Nat) = 5 ∨ zrcv h b = some (zown jj)) then _ else _) = _; rw [if_pos ⟨hs, hl, Or.inr (Or.inr hr)⟩]; rfl) hc k
theorem zr_cv40 {a1 a2 a3 a4 : Value} {b : Nat} (hi : zins j pc = some (.invokevirtual idx)) (hm : zml (zown j) idx = some (kd, jj, 4)) (hk : kd = 0 ∨ kd = 1) (hr : zrcv h b = some (zown jj)) (hs : (r.map fun v => v.category).sum ≤ 8) (hl : (zentl [.ref b, a1, a2, a3, a4]).length ≤ zmaxL jj) (hc : zR X d jj 0 (zent (zmaxL jj) [.ref b, a1, a2, a3, a4]) [] h (none, h1)) (k : zR X (d + 1) j (pc + 3) L r h1 u) : zR X (d + 1) j pc L (a4 :: a3 :: a2 :: a1 :: .ref b :: r) h u := by
  rcases hk with rfl | rfl
  · exact zR.call (q := (0, jj, 4)) (As := [.ref b, a1, a2, a3, a4]) (rest := r) hi rfl (by unfold zinv; dsimp only; rw [hm]; rfl) (by show (if ((a4 :: a3 :: a2 :: a1 :: .ref b :: r)).length < 4 then none else _) = _; rw [if_neg (by simp)]; show (if ((0 : Nat) = 2 ∨ (0 : Nat) = 3) then _ else _) = _; rw [if_neg (by decide)]; show (if (r.map fun v => v.category).sum ≤ 8 ∧ (zentl [.ref b, a1, a2, a3, a4]).length ≤ zmaxL jj ∧ ((0 : Nat) = 4 ∨ (0 : Nat) = 5 ∨ zrcv h b = some (zown jj)) then _ else _) = _; rw [if_pos ⟨hs, hl, Or.inr (Or.inr hr)⟩]; rfl) hc k
  · exact zR.call (q := (1, jj, 4)) (As := [.ref b, a1, a2, a3, a4]) (rest := r) hi rfl (by unfold zinv; dsimp only; rw [hm]; rfl) (by show (if ((a4 :: a3 :: a2 :: a1 :: .ref b :: r)).length < 4 then none else _) = _; rw [if_neg (by simp)]; show (if ((1 : Nat) = 2 ∨ (1 : Nat) = 3) then _ else _) = _; rw [if_neg (by decide)]; show (if (r.map fun v => v.category).sum ≤ 8 ∧ (zentl [.ref b, a1, a2, a3, a4]).length ≤ zmaxL jj ∧ ((1 : Nat) = 4 ∨ (1 : Nat) = 5 ∨ zrcv h b = some (zown jj)) then _ else _) = _; rw [if_pos ⟨hs, hl, Or.inr (Or.inr hr)⟩]; rfl) hc k
theorem zr_cv5 {a1 a2 a3 a4 a5 : Value} {b : Nat} {v : Value} (hi : zins j pc = some (.invokevirtual idx)) (hm : zml (zown j) idx = some (kd, jj, 5)) (hk : kd = 0 ∨ kd = 1) (hr : zrcv h b = some (zown jj)) (hs : (r.map fun v => v.category).sum ≤ 8) (hl : (zentl [.ref b, a1, a2, a3, a4, a5]).length ≤ zmaxL jj) (hc : zR X d jj 0 (zent (zmaxL jj) [.ref b, a1, a2, a3, a4, a5]) [] h ((some v), h1)) (k : zR X (d + 1) j (pc + 3) L (v :: r) h1 u) : zR X (d + 1) j pc L (a5 :: a4 :: a3 :: a2 :: a1 :: .ref b :: r) h u := by
  rcases hk with rfl | rfl
  · exact zR.call (q := (0, jj, 5)) (As := [.ref b, a1, a2, a3, a4, a5]) (rest := r) hi rfl (by unfold zinv; dsimp only; rw [hm]; rfl) (by show (if ((a5 :: a4 :: a3 :: a2 :: a1 :: .ref b :: r)).length < 5 then none else _) = _; rw [if_neg (by simp)]; show (if ((0 : Nat) = 2 ∨ (0 : Nat) = 3) then _ else _) = _; rw [if_neg (by decide)]; show (if (r.map fun v => v.category).sum ≤ 8 ∧ (zentl [.ref b, a1, a2, a3, a4, a5]).length ≤ zmaxL jj ∧ ((0 : Nat) = 4 ∨ (0 : Nat) = 5 ∨ zrcv h b = some (zown jj)) then _ else _) = _; rw [if_pos ⟨hs, hl, Or.inr (Or.inr hr)⟩]; rfl) hc k
  · exact zR.call (q := (1, jj, 5)) (As := [.ref b, a1, a2, a3, a4, a5]) (rest := r) hi rfl (by unfold zinv; dsimp only; rw [hm]; rfl) (by show (if ((a5 :: a4 :: a3 :: a2 :: a1 :: .ref b :: r)).length < 5 then none else _) = _; rw [if_neg (by simp)]; show (if ((1 : Nat) = 2 ∨ (1 : Nat) = 3) then _ else _) = _; rw [if_neg (by decide)]; show (if (r.map fun v => v.category).sum ≤ 8 ∧ (zentl [.ref b, a1, a2, a3, a4, a5]).length ≤ zmaxL jj ∧ ((1 : Nat) = 4 ∨ (1 : Nat) = 5 ∨ zrcv h b = some (zown jj)) then _ else _) = _; rw [if_pos ⟨hs, hl, Or.inr (Or.inr hr)⟩]; rfl) hc k
theorem zr_cv50 {a1 a2 a3 a4 a5 : Value} {b : Nat} (hi : zins j pc = some (.invokevirtual idx)) (hm : zml (zown j) idx = some (kd, jj, 5)) (hk : kd = 0 ∨ kd = 1) (hr : zrcv h b = some (zown jj)) (hs : (r.map fun v => v.category).sum ≤ 8) (hl : (zentl [.ref b, a1, a2, a3, a4, a5]).length ≤ zmaxL jj) (hc : zR X d jj 0 (zent (zmaxL jj) [.ref b, a1, a2, a3, a4, a5]) [] h (none, h1)) (k : zR X (d + 1) j (pc + 3) L r h1 u) : zR X (d + 1) j pc L (a5 :: a4 :: a3 :: a2 :: a1 :: .ref b :: r) h u := by
  rcases hk with rfl | rfl
  · exact zR.call (q := (0, jj, 5)) (As := [.ref b, a1, a2, a3, a4, a5]) (rest := r) hi rfl (by unfold zinv; dsimp only; rw [hm]; rfl) (by show (if ((a5 :: a4 :: a3 :: a2 :: a1 :: .ref b :: r)).length < 5 then none else _) = _; rw [if_neg (by simp)]; show (if ((0 : Nat) = 2 ∨ (0 : Nat) = 3) then _ else _) = _; rw [if_neg (by decide)]; show (if (r.map fun v => v.category).sum ≤ 8 ∧ (zentl [.ref b, a1, a2, a3, a4, a5]).length ≤ zmaxL jj ∧ ((0 : Nat) = 4 ∨ (0 : Nat) = 5 ∨ zrcv h b = some (zown jj)) then _ else _) = _; rw [if_pos ⟨hs, hl, Or.inr (Or.inr hr)⟩]; rfl) hc k
  · exact zR.call (q := (1, jj, 5)) (As := [.ref b, a1, a2, a3, a4, a5]) (rest := r) hi rfl (by unfold zinv; dsimp only; rw [hm]; rfl) (by show (if ((a5 :: a4 :: a3 :: a2 :: a1 :: .ref b :: r)).length < 5 then none else _) = _; rw [if_neg (by simp)]; show (if ((1 : Nat) = 2 ∨ (1 : Nat) = 3) then _ else _) = _; rw [if_neg (by decide)]; show (if (r.map fun v => v.category).sum ≤ 8 ∧ (zentl [.ref b, a1, a2, a3, a4, a5]).length ≤ zmaxL jj ∧ ((1 : Nat) = 4 ∨ (1 : Nat) = 5 ∨ zrcv h b = some (zown jj)) then _ else _) = _; rw [if_pos ⟨hs, hl, Or.inr (Or.inr hr)⟩]; rfl) hc k
theorem zr_cv6 {a1 a2 a3 a4 a5 a6 : Value} {b : Nat} {v : Value} (hi : zins j pc = some (.invokevirtual idx)) (hm : zml (zown j) idx = some (kd, jj, 6)) (hk : kd = 0 ∨ kd = 1) (hr : zrcv h b = some (zown jj)) (hs : (r.map fun v => v.category).sum ≤ 8) (hl : (zentl [.ref b, a1, a2, a3, a4, a5, a6]).length ≤ zmaxL jj) (hc : zR X d jj 0 (zent (zmaxL jj) [.ref b, a1, a2, a3, a4, a5, a6]) [] h ((some v), h1)) (k : zR X (d + 1) j (pc + 3) L (v :: r) h1 u) : zR X (d + 1) j pc L (a6 :: a5 :: a4 :: a3 :: a2 :: a1 :: .ref b :: r) h u := by
  rcases hk with rfl | rfl
  · exact zR.call (q := (0, jj, 6)) (As := [.ref b, a1, a2, a3, a4, a5, a6]) (rest := r) hi rfl (by unfold zinv; dsimp only; rw [hm]; rfl) (by show (if ((a6 :: a5 :: a4 :: a3 :: a2 :: a1 :: .ref b :: r)).length < 6 then none else _) = _; rw [if_neg (by simp)]; show (if ((0 : Nat) = 2 ∨ (0 : Nat) = 3) then _ else _) = _; rw [if_neg (by decide)]; show (if (r.map fun v => v.category).sum ≤ 8 ∧ (zentl [.ref b, a1, a2, a3, a4, a5, a6]).length ≤ zmaxL jj ∧ ((0 : Nat) = 4 ∨ (0 : Nat) = 5 ∨ zrcv h b = some (zown jj)) then _ else _) = _; rw [if_pos ⟨hs, hl, Or.inr (Or.inr hr)⟩]; rfl) hc k
  · exact zR.call (q := (1, jj, 6)) (As := [.ref b, a1, a2, a3, a4, a5, a6]) (rest := r) hi rfl (by unfold zinv; dsimp only; rw [hm]; rfl) (by show (if ((a6 :: a5 :: a4 :: a3 :: a2 :: a1 :: .ref b :: r)).length < 6 then none else _) = _; rw [if_neg (by simp)]; show (if ((1 : Nat) = 2 ∨ (1 : Nat) = 3) then _ else _) = _; rw [if_neg (by decide)]; show (if (r.map fun v => v.category).sum ≤ 8 ∧ (zentl [.ref b, a1, a2, a3, a4, a5, a6]).length ≤ zmaxL jj ∧ ((1 : Nat) = 4 ∨ (1 : Nat) = 5 ∨ zrcv h b = some (zown jj)) then _ else _) = _; rw [if_pos ⟨hs, hl, Or.inr (Or.inr hr)⟩]; rfl) hc k
theorem zr_cv60 {a1 a2 a3 a4 a5 a6 : Value} {b : Nat} (hi : zins j pc = some (.invokevirtual idx)) (hm : zml (zown j) idx = some (kd, jj, 6)) (hk : kd = 0 ∨ kd = 1) (hr : zrcv h b = some (zown jj)) (hs : (r.map fun v => v.category).sum ≤ 8) (hl : (zentl [.ref b, a1, a2, a3, a4, a5, a6]).length ≤ zmaxL jj) (hc : zR X d jj 0 (zent (zmaxL jj) [.ref b, a1, a2, a3, a4, a5, a6]) [] h (none, h1)) (k : zR X (d + 1) j (pc + 3) L r h1 u) : zR X (d + 1) j pc L (a6 :: a5 :: a4 :: a3 :: a2 :: a1 :: .ref b :: r) h u := by
  rcases hk with rfl | rfl
  · exact zR.call (q := (0, jj, 6)) (As := [.ref b, a1, a2, a3, a4, a5, a6]) (rest := r) hi rfl (by unfold zinv; dsimp only; rw [hm]; rfl) (by show (if ((a6 :: a5 :: a4 :: a3 :: a2 :: a1 :: .ref b :: r)).length < 6 then none else _) = _; rw [if_neg (by simp)]; show (if ((0 : Nat) = 2 ∨ (0 : Nat) = 3) then _ else _) = _; rw [if_neg (by decide)]; show (if (r.map fun v => v.category).sum ≤ 8 ∧ (zentl [.ref b, a1, a2, a3, a4, a5, a6]).length ≤ zmaxL jj ∧ ((0 : Nat) = 4 ∨ (0 : Nat) = 5 ∨ zrcv h b = some (zown jj)) then _ else _) = _; rw [if_pos ⟨hs, hl, Or.inr (Or.inr hr)⟩]; rfl) hc k
  · exact zR.call (q := (1, jj, 6)) (As := [.ref b, a1, a2, a3, a4, a5, a6]) (rest := r) hi rfl (by unfold zinv; dsimp only; rw [hm]; rfl) (by show (if ((a6 :: a5 :: a4 :: a3 :: a2 :: a1 :: .ref b :: r)).length < 6 then none else _) = _; rw [if_neg (by simp)]; show (if ((1 : Nat) = 2 ∨ (1 : Nat) = 3) then _ else _) = _; rw [if_neg (by decide)]; show (if (r.map fun v => v.category).sum ≤ 8 ∧ (zentl [.ref b, a1, a2, a3, a4, a5, a6]).length ≤ zmaxL jj ∧ ((1 : Nat) = 4 ∨ (1 : Nat) = 5 ∨ zrcv h b = some (zown jj)) then _ else _) = _; rw [if_pos ⟨hs, hl, Or.inr (Or.inr hr)⟩]; rfl) hc k
theorem zr_ci00 {b : Nat} (hi : zins j pc = some (.invokespecial idx)) (hm : zml (zown j) idx = some (kd, jj, 0)) (hk : kd = 4 ∨ kd = 5) (hs : (r.map fun v => v.category).sum ≤ 8) (hl : (zentl [.ref b]).length ≤ zmaxL jj) (hc : zR X d jj 0 (zent (zmaxL jj) [.ref b]) [] h (none, h1)) (k : zR X (d + 1) j (pc + 3) L r h1 u) : zR X (d + 1) j pc L (.ref b :: r) h u := by
  rcases hk with rfl | rfl
  · exact zR.call (q := (4, jj, 0)) (As := [.ref b]) (rest := r) hi rfl (by unfold zinv; dsimp only; rw [hm]; rfl) (by show (if ((.ref b :: r)).length < 0 then none else _) = _; rw [if_neg (by simp)]; show (if ((4 : Nat) = 2 ∨ (4 : Nat) = 3) then _ else _) = _; rw [if_neg (by decide)]; show (if (r.map fun v => v.category).sum ≤ 8 ∧ (zentl [.ref b]).length ≤ zmaxL jj ∧ ((4 : Nat) = 4 ∨ (4 : Nat) = 5 ∨ zrcv h b = some (zown jj)) then _ else _) = _; rw [if_pos ⟨hs, hl, Or.inl rfl⟩]; rfl) hc k
  · exact zR.call (q := (5, jj, 0)) (As := [.ref b]) (rest := r) hi rfl (by unfold zinv; dsimp only; rw [hm]; rfl) (by show (if ((.ref b :: r)).length < 0 then none else _) = _; rw [if_neg (by simp)]; show (if ((5 : Nat) = 2 ∨ (5 : Nat) = 3) then _ else _) = _; rw [if_neg (by decide)]; show (if (r.map fun v => v.category).sum ≤ 8 ∧ (zentl [.ref b]).length ≤ zmaxL jj ∧ ((5 : Nat) = 4 ∨ (5 : Nat) = 5 ∨ zrcv h b = some (zown jj)) then _ else _) = _; rw [if_pos ⟨hs, hl, Or.inr (Or.inl rfl)⟩]; rfl) hc k
theorem zr_ci10 {a1 : Value} {b : Nat} (hi : zins j pc = some (.invokespecial idx)) (hm : zml (zown j) idx = some (kd, jj, 1)) (hk : kd = 4 ∨ kd = 5) (hs : (r.map fun v => v.category).sum ≤ 8) (hl : (zentl [.ref b, a1]).length ≤ zmaxL jj) (hc : zR X d jj 0 (zent (zmaxL jj) [.ref b, a1]) [] h (none, h1)) (k : zR X (d + 1) j (pc + 3) L r h1 u) : zR X (d + 1) j pc L (a1 :: .ref b :: r) h u := by
  rcases hk with rfl | rfl
  · exact zR.call (q := (4, jj, 1)) (As := [.ref b, a1]) (rest := r) hi rfl (by unfold zinv; dsimp only; rw [hm]; rfl) (by show (if ((a1 :: .ref b :: r)).length < 1 then none else _) = _; rw [if_neg (by simp)]; show (if ((4 : Nat) = 2 ∨ (4 : Nat) = 3) then _ else _) = _; rw [if_neg (by decide)]; show (if (r.map fun v => v.category).sum ≤ 8 ∧ (zentl [.ref b, a1]).length ≤ zmaxL jj ∧ ((4 : Nat) = 4 ∨ (4 : Nat) = 5 ∨ zrcv h b = some (zown jj)) then _ else _) = _; rw [if_pos ⟨hs, hl, Or.inl rfl⟩]; rfl) hc k
  · exact zR.call (q := (5, jj, 1)) (As := [.ref b, a1]) (rest := r) hi rfl (by unfold zinv; dsimp only; rw [hm]; rfl) (by show (if ((a1 :: .ref b :: r)).length < 1 then none else _) = _; rw [if_neg (by simp)]; show (if ((5 : Nat) = 2 ∨ (5 : Nat) = 3) then _ else _) = _; rw [if_neg (by decide)]; show (if (r.map fun v => v.category).sum ≤ 8 ∧ (zentl [.ref b, a1]).length ≤ zmaxL jj ∧ ((5 : Nat) = 4 ∨ (5 : Nat) = 5 ∨ zrcv h b = some (zown jj)) then _ else _) = _; rw [if_pos ⟨hs, hl, Or.inr (Or.inl rfl)⟩]; rfl) hc k
theorem zr_ci20 {a1 a2 : Value} {b : Nat} (hi : zins j pc = some (.invokespecial idx)) (hm : zml (zown j) idx = some (kd, jj, 2)) (hk : kd = 4 ∨ kd = 5) (hs : (r.map fun v => v.category).sum ≤ 8) (hl : (zentl [.ref b, a1, a2]).length ≤ zmaxL jj) (hc : zR X d jj 0 (zent (zmaxL jj) [.ref b, a1, a2]) [] h (none, h1)) (k : zR X (d + 1) j (pc + 3) L r h1 u) : zR X (d + 1) j pc L (a2 :: a1 :: .ref b :: r) h u := by
  rcases hk with rfl | rfl
  · exact zR.call (q := (4, jj, 2)) (As := [.ref b, a1, a2]) (rest := r) hi rfl (by unfold zinv; dsimp only; rw [hm]; rfl) (by show (if ((a2 :: a1 :: .ref b :: r)).length < 2 then none else _) = _; rw [if_neg (by simp)]; show (if ((4 : Nat) = 2 ∨ (4 : Nat) = 3) then _ else _) = _; rw [if_neg (by decide)]; show (if (r.map fun v => v.category).sum ≤ 8 ∧ (zentl [.ref b, a1, a2]).length ≤ zmaxL jj ∧ ((4 : Nat) = 4 ∨ (4 : Nat) = 5 ∨ zrcv h b = some (zown jj)) then _ else _) = _; rw [if_pos ⟨hs, hl, Or.inl rfl⟩]; rfl) hc k
  · exact zR.call (q := (5, jj, 2)) (As := [.ref b, a1, a2]) (rest := r) hi rfl (by unfold zinv; dsimp only; rw [hm]; rfl) (by show (if ((a2 :: a1 :: .ref b :: r)).length < 2 then none else _) = _; rw [if_neg (by simp)]; show (if ((5 : Nat) = 2 ∨ (5 : Nat) = 3) then _ else _) = _; rw [if_neg (by decide)]; show (if (r.map fun v => v.category).sum ≤ 8 ∧ (zentl [.ref b, a1, a2]).length ≤ zmaxL jj ∧ ((5 : Nat) = 4 ∨ (5 : Nat) = 5 ∨ zrcv h b = some (zown jj)) then _ else _) = _; rw [if_pos ⟨hs, hl, Or.inr (Or.inl rfl)⟩]; rfl) hc k
theorem zr_ci30 {a1 a2 a3 : Value} {b : Nat} (hi : zins j pc = some (.invokespecial idx)) (hm : zml (zown j) idx = some (kd, jj, 3)) (hk : kd = 4 ∨ kd = 5) (hs : (r.map fun v => v.category).sum ≤ 8) (hl : (zentl [.ref b, a1, a2, a3]).length ≤ zmaxL jj) (hc : zR X d jj 0 (zent (zmaxL jj) [.ref b, a1, a2, a3]) [] h (none, h1)) (k : zR X (d + 1) j (pc + 3) L r h1 u) : zR X (d + 1) j pc L (a3 :: a2 :: a1 :: .ref b :: r) h u := by
  rcases hk with rfl | rfl
  · exact zR.call (q := (4, jj, 3)) (As := [.ref b, a1, a2, a3]) (rest := r) hi rfl (by unfold zinv; dsimp only; rw [hm]; rfl) (by show (if ((a3 :: a2 :: a1 :: .ref b :: r)).length < 3 then none else _) = _; rw [if_neg (by simp)]; show (if ((4 : Nat) = 2 ∨ (4 : Nat) = 3) then _ else _) = _; rw [if_neg (by decide)]; show (if (r.map fun v => v.category).sum ≤ 8 ∧ (zentl [.ref b, a1, a2, a3]).length ≤ zmaxL jj ∧ ((4 : Nat) = 4 ∨ (4 : Nat) = 5 ∨ zrcv h b = some (zown jj)) then _ else _) = _; rw [if_pos ⟨hs, hl, Or.inl rfl⟩]; rfl) hc k
  · exact zR.call (q := (5, jj, 3)) (As := [.ref b, a1, a2, a3]) (rest := r) hi rfl (by unfold zinv; dsimp only; rw [hm]; rfl) (by show (if ((a3 :: a2 :: a1 :: .ref b :: r)).length < 3 then none else _) = _; rw [if_neg (by simp)]; show (if ((5 : Nat) = 2 ∨ (5 : Nat) = 3) then _ else _) = _; rw [if_neg (by decide)]; show (if (r.map fun v => v.category).sum ≤ 8 ∧ (zentl [.ref b, a1, a2, a3]).length ≤ zmaxL jj ∧ ((5 : Nat) = 4 ∨ (5 : Nat) = 5 ∨ zrcv h b = some (zown jj)) then _ else _) = _; rw [if_pos ⟨hs, hl, Or.inr (Or.inl rfl)⟩]; rfl) hc k
theorem zr_ci40 {a1 a2 a3 a4 : Value} {b : Nat} (hi : zins j pc = some (.invokespecial idx)) (hm : zml (zown j) idx = some (kd, jj, 4)) (hk : kd = 4 ∨ kd = 5) (hs : (r.map fun v => v.category).sum ≤ 8) (hl : (zentl [.ref b, a1, a2, a3, a4]).length ≤ zmaxL jj) (hc : zR X d jj 0 (zent (zmaxL jj) [.ref b, a1, a2, a3, a4]) [] h (none, h1)) (k : zR X (d + 1) j (pc + 3) L r h1 u) : zR X (d + 1) j pc L (a4 :: a3 :: a2 :: a1 :: .ref b :: r) h u := by
  rcases hk with rfl | rfl
  · exact zR.call (q := (4, jj, 4)) (As := [.ref b, a1, a2, a3, a4]) (rest := r) hi rfl (by unfold zinv; dsimp only; rw [hm]; rfl) (by show (if ((a4 :: a3 :: a2 :: a1 :: .ref b :: r)).length < 4 then none else _) = _; rw [if_neg (by simp)]; show (if ((4 : Nat) = 2 ∨ (4 : Nat) = 3) then _ else _) = _; rw [if_neg (by decide)]; show (if (r.map fun v => v.category).sum ≤ 8 ∧ (zentl [.ref b, a1, a2, a3, a4]).length ≤ zmaxL jj ∧ ((4 : Nat) = 4 ∨ (4 : Nat) = 5 ∨ zrcv h b = some (zown jj)) then _ else _) = _; rw [if_pos ⟨hs, hl, Or.inl rfl⟩]; rfl) hc k
  · exact zR.call (q := (5, jj, 4)) (As := [.ref b, a1, a2, a3, a4]) (rest := r) hi rfl (by unfold zinv; dsimp only; rw [hm]; rfl) (by show (if ((a4 :: a3 :: a2 :: a1 :: .ref b :: r)).length < 4 then none else _) = _; rw [if_neg (by simp)]; show (if ((5 : Nat) = 2 ∨ (5 : Nat) = 3) then _ else _) = _; rw [if_neg (by decide)]; show (if (r.map fun v => v.category).sum ≤ 8 ∧ (zentl [.ref b, a1, a2, a3, a4]).length ≤ zmaxL jj ∧ ((5 : Nat) = 4 ∨ (5 : Nat) = 5 ∨ zrcv h b = some (zown jj)) then _ else _) = _; rw [if_pos ⟨hs, hl, Or.inr (Or.inl rfl)⟩]; rfl) hc k
theorem zr_ci50 {a1 a2 a3 a4 a5 : Value} {b : Nat} (hi : zins j pc = some (.invokespecial idx)) (hm : zml (zown j) idx = some (kd, jj, 5)) (hk : kd = 4 ∨ kd = 5) (hs : (r.map fun v => v.category).sum ≤ 8) (hl : (zentl [.ref b, a1, a2, a3, a4, a5]).length ≤ zmaxL jj) (hc : zR X d jj 0 (zent (zmaxL jj) [.ref b, a1, a2, a3, a4, a5]) [] h (none, h1)) (k : zR X (d + 1) j (pc + 3) L r h1 u) : zR X (d + 1) j pc L (a5 :: a4 :: a3 :: a2 :: a1 :: .ref b :: r) h u := by
  rcases hk with rfl | rfl
  · exact zR.call (q := (4, jj, 5)) (As := [.ref b, a1, a2, a3, a4, a5]) (rest := r) hi rfl (by unfold zinv; dsimp only; rw [hm]; rfl) (by show (if ((a5 :: a4 :: a3 :: a2 :: a1 :: .ref b :: r)).length < 5 then none else _) = _; rw [if_neg (by simp)]; show (if ((4 : Nat) = 2 ∨ (4 : Nat) = 3) then _ else _) = _; rw [if_neg (by decide)]; show (if (r.map fun v => v.category).sum ≤ 8 ∧ (zentl [.ref b, a1, a2, a3, a4, a5]).length ≤ zmaxL jj ∧ ((4 : Nat) = 4 ∨ (4 : Nat) = 5 ∨ zrcv h b = some (zown jj)) then _ else _) = _; rw [if_pos ⟨hs, hl, Or.inl rfl⟩]; rfl) hc k
  · exact zR.call (q := (5, jj, 5)) (As := [.ref b, a1, a2, a3, a4, a5]) (rest := r) hi rfl (by unfold zinv; dsimp only; rw [hm]; rfl) (by show (if ((a5 :: a4 :: a3 :: a2 :: a1 :: .ref b :: r)).length < 5 then none else _) = _; rw [if_neg (by simp)]; show (if ((5 : Nat) = 2 ∨ (5 : Nat) = 3) then _ else _) = _; rw [if_neg (by decide)]; show (if (r.map fun v => v.category).sum ≤ 8 ∧ (zentl [.ref b, a1, a2, a3, a4, a5]).length ≤ zmaxL jj ∧ ((5 : Nat) = 4 ∨ (5 : Nat) = 5 ∨ zrcv h b = some (zown jj)) then _ else _) = _; rw [if_pos ⟨hs, hl, Or.inr (Or.inl rfl)⟩]; rfl) hc k
theorem zr_ci60 {a1 a2 a3 a4 a5 a6 : Value} {b : Nat} (hi : zins j pc = some (.invokespecial idx)) (hm : zml (zown j) idx = some (kd, jj, 6)) (hk : kd = 4 ∨ kd = 5) (hs : (r.map fun v => v.category).sum ≤ 8) (hl : (zentl [.ref b, a1, a2, a3, a4, a5, a6]).length ≤ zmaxL jj) (hc : zR X d jj 0 (zent (zmaxL jj) [.ref b, a1, a2, a3, a4, a5, a6]) [] h (none, h1)) (k : zR X (d + 1) j (pc + 3) L r h1 u) : zR X (d + 1) j pc L (a6 :: a5 :: a4 :: a3 :: a2 :: a1 :: .ref b :: r) h u := by
  rcases hk with rfl | rfl
  · exact zR.call (q := (4, jj, 6)) (As := [.ref b, a1, a2, a3, a4, a5, a6]) (rest := r) hi rfl (by unfold zinv; dsimp only; rw [hm]; rfl) (by show (if ((a6 :: a5 :: a4 :: a3 :: a2 :: a1 :: .ref b :: r)).length < 6 then none else _) = _; rw [if_neg (by simp)]; show (if ((4 : Nat) = 2 ∨ (4 : Nat) = 3) then _ else _) = _; rw [if_neg (by decide)]; show (if (r.map fun v => v.category).sum ≤ 8 ∧ (zentl [.ref b, a1, a2, a3, a4, a5, a6]).length ≤ zmaxL jj ∧ ((4 : Nat) = 4 ∨ (4 : Nat) = 5 ∨ zrcv h b = some (zown jj)) then _ else _) = _; rw [if_pos ⟨hs, hl, Or.inl rfl⟩]; rfl) hc k
  · exact zR.call (q := (5, jj, 6)) (As := [.ref b, a1, a2, a3, a4, a5, a6]) (rest := r) hi rfl (by unfold zinv; dsimp only; rw [hm]; rfl) (by show (if ((a6 :: a5 :: a4 :: a3 :: a2 :: a1 :: .ref b :: r)).length < 6 then none else _) = _; rw [if_neg (by simp)]; show (if ((5 : Nat) = 2 ∨ (5 : Nat) = 3) then _ else _) = _; rw [if_neg (by decide)]; show (if (r.map fun v => v.category).sum ≤ 8 ∧ (zentl [.ref b, a1, a2, a3, a4, a5, a6]).length ≤ zmaxL jj ∧ ((5 : Nat) = 4 ∨ (5 : Nat) = 5 ∨ zrcv h b = some (zown jj)) then _ else _) = _; rw [if_pos ⟨hs, hl, Or.inr (Or.inl rfl)⟩]; rfl) hc k
theorem zr_obj {a : Nat} {x1 x2 : Nat} (hi : zins j pc = some (.invokespecial idx)) (hm : zml (zown j) idx = some (6, x1, x2)) (hs : (r.map fun v => v.category).sum ≤ 8) (k : zR X (d + 1) j (pc + 3) L r h u) : zR X (d + 1) j pc L (.ref a :: r) h u :=
  zR.spec (F := (pc + 3, L, r, h)) hi rfl (by unfold zinv; dsimp only; rw [hm]; rfl) (by unfold zspec; dsimp only; rw [hm]; exact if_pos ⟨Nat.succ_pos d, hs⟩) k
theorem zr_max {x y : Int32} {x1 x2 : Nat} (hi : zins j pc = some (.invokestatic idx)) (hm : zml (zown j) idx = some (7, x1, x2)) (hs : (r.map fun v => v.category).sum ≤ 8) (k : zR X (d + 1) j (pc + 3) L (.int (if x < y then y else x) :: r) h u) : zR X (d + 1) j pc L (.int y :: .int x :: r) h u :=
  zR.spec (F := (pc + 3, L, .int (if x < y then y else x) :: r, h)) hi rfl (by unfold zinv; dsimp only; rw [hm]; rfl) (by unfold zspec; dsimp only; rw [hm]; exact if_pos ⟨Nat.succ_pos d, hs⟩) k
theorem zr_min {x y : Int32} {x1 x2 : Nat} (hi : zins j pc = some (.invokestatic idx)) (hm : zml (zown j) idx = some (9, x1, x2)) (hs : (r.map fun v => v.category).sum ≤ 8) (k : zR X (d + 1) j (pc + 3) L (.int (if y < x then y else x) :: r) h u) : zR X (d + 1) j pc L (.int y :: .int x :: r) h u :=
  zR.spec (F := (pc + 3, L, .int (if y < x then y else x) :: r, h)) hi rfl (by unfold zinv; dsimp only; rw [hm]; rfl) (by unfold zspec; dsimp only; rw [hm]; exact if_pos ⟨Nat.succ_pos d, hs⟩) k
theorem zr_ord {b : Nat} {v : Int32} {x1 x2 : Nat} (hi : zins j pc = some (.invokevirtual idx)) (hm : zml (zown j) idx = some (8, x1, x2)) (hv : zcf zCF b 4 = some (.int v)) (ho : zko b = some 14) (hs : (r.map fun v => v.category).sum ≤ 8) (k : zR X (d + 1) j (pc + 3) L (.int v :: r) h u) : zR X (d + 1) j pc L (.ref b :: r) h u :=
  zR.spec (F := (pc + 3, L, .int v :: r, h)) hi rfl (by unfold zinv; dsimp only; rw [hm]; rfl) (by unfold zspec; dsimp only; rw [hm]; show (match zcf zCF b 4 with | some (Value.int v) => (if 0 < d + 1 ∧ (r.map fun v : Value => v.category).sum ≤ 8 ∧ zko b = some 14 then some (pc + 3, L, Value.int v :: r, h) else none) | _ => none) = _; rw [hv]; exact if_pos ⟨Nat.succ_pos d, hs, ho⟩) k
end ZRC
end
section
/-! THE REFERENCE's object: its cells are 129 to 155; its state: eight numbers, 26 rows -/
abbrev zMS : Type := (Nat → Int32) × (Nat → Nat → Int32)
def mcell (ms : zMS) (k : Nat) : zC := match k with
  | 0 => .inr (9, [.int (ms.1 0), .ref 130, .int (ms.1 1), .ref 131, .ref 132, .ref 133, .ref 134, .ref 135, .ref 136, .ref 137, .ref 138, .ref 139, .ref 140, .ref 141, .ref 142, .ref 143, .int (ms.1 2), .int (ms.1 3), .int (ms.1 4), .int (ms.1 5), .ref 144, .int (ms.1 6), .ref 145, .ref 146, .ref 147, .ref 148, .ref 149, .ref 150, .ref 151, .ref 152, .ref 153, .int (ms.1 7), .ref 154, .ref 155])
  | 1 => .inl (1, 200, .inl (ms.2 1))
  | 2 => .inl (0, 2, .inl (ms.2 2))
  | 3 => .inl (0, 2, .inl (ms.2 3))
  | 4 => .inl (0, 2, .inl (ms.2 4))
  | 5 => .inl (0, 440, .inl (ms.2 5))
  | 6 => .inl (0, 440, .inl (ms.2 6))
  | 7 => .inl (0, 440, .inl (ms.2 7))
  | 8 => .inl (0, 440, .inl (ms.2 8))
  | 9 => .inl (0, 440, .inl (ms.2 9))
  | 10 => .inl (0, 440, .inl (ms.2 10))
  | 11 => .inl (0, 440, .inl (ms.2 11))
  | 12 => .inl (1, 400, .inl (ms.2 12))
  | 13 => .inl (1, 1200, .inl (ms.2 13))
  | 14 => .inl (1, 5, .inl (ms.2 14))
  | 15 => .inl (1, 64, .inl (ms.2 15))
  | 16 => .inl (1, 96, .inl (ms.2 16))
  | 17 => .inl (0, 16, .inl (ms.2 17))
  | 18 => .inl (3, 100, .inl (ms.2 18))
  | 19 => .inl (0, 100, .inl (ms.2 19))
  | 20 => .inl (0, 200, .inl (ms.2 20))
  | 21 => .inl (1, 2400, .inl (ms.2 21))
  | 22 => .inl (0, 101, .inl (ms.2 22))
  | 23 => .inl (0, 1212, .inl (ms.2 23))
  | 24 => .inl (0, 1212, .inl (ms.2 24))
  | 25 => .inl (1, 800, .inl (ms.2 25))
  | _ => .inl (1, 5, .inl (ms.2 26))
def mset (g : zH) (ms : zMS) : zH := (g.1, g.2.1, fun a => if 129 ≤ a ∧ a < 156 then some (mcell ms (a - 129)) else g.2.2 a)
theorem mset_at {g : zH} {ms : zMS} {k : Nat} (hk : k < 27) : (mset g ms).2.2 (129 + k) = some (mcell ms k) := by
  show (if 129 ≤ 129 + k ∧ 129 + k < 156 then some (mcell ms (129 + k - 129)) else g.2.2 (129 + k)) = _
  rw [if_pos (by omega), Nat.add_sub_cancel_left]
theorem mset_wr {g : zH} {ms ms' : zMS} {k : Nat} (hk : k < 27) (hs : ∀ i, i < 27 → i ≠ k → mcell ms' i = mcell ms i) : zwr (mset g ms) (129 + k) (mcell ms' k) = mset g ms' := by
  show (g.1, g.2.1, va_up (mset g ms).2.2 (129 + k) (some (mcell ms' k))) = (g.1, g.2.1, _)
  congr 2
  funext a
  show (if a = 129 + k then some (mcell ms' k) else (if 129 ≤ a ∧ a < 156 then some (mcell ms (a - 129)) else g.2.2 a)) = (if 129 ≤ a ∧ a < 156 then some (mcell ms' (a - 129)) else g.2.2 a)
  by_cases ha : a = 129 + k
  · subst ha
    rw [if_pos rfl, if_pos (by omega), Nat.add_sub_cancel_left]
  · rw [if_neg ha]
    by_cases hb : 129 ≤ a ∧ a < 156
    · rw [if_pos hb, if_pos hb, hs (a - 129) (by omega) (by omega)]
    · rw [if_neg hb, if_neg hb]
theorem mcell_arr {ms : zMS} {a : Nat} {f : Nat → Int32} {i : Nat} (hi : i < 27) (hn : i ≠ a) : mcell (ms.1, va_up ms.2 a f) i = mcell ms i := by
  have e : i = 0 ∨ ∃ k, i = k + 1 := by cases i with
    | zero => exact Or.inl rfl
    | succ k => exact Or.inr ⟨k, rfl⟩
  rcases e with rfl | ⟨k, rfl⟩
  · rfl
  · have hv : va_up ms.2 a f (k + 1) = ms.2 (k + 1) := va_up_ne _ _ hn
    rcases (show k = 0 ∨ k = 1 ∨ k = 2 ∨ k = 3 ∨ k = 4 ∨ k = 5 ∨ k = 6 ∨ k = 7 ∨ k = 8 ∨ k = 9 ∨ k = 10 ∨ k = 11 ∨ k = 12 ∨ k = 13 ∨ k = 14 ∨ k = 15 ∨ k = 16 ∨ k = 17 ∨ k = 18 ∨ k = 19 ∨ k = 20 ∨ k = 21 ∨ k = 22 ∨ k = 23 ∨ k = 24 ∨ k = 25 by omega) with rfl | rfl | rfl | rfl | rfl | rfl | rfl | rfl | rfl | rfl | rfl | rfl | rfl | rfl | rfl | rfl | rfl | rfl | rfl | rfl | rfl | rfl | rfl | rfl | rfl | rfl
    · show (Sum.inl (1, 200, .inl (va_up ms.2 a f 1)) : zC) = .inl (1, 200, .inl (ms.2 1)); rw [show va_up ms.2 a f 1 = ms.2 1 from hv]
    · show (Sum.inl (0, 2, .inl (va_up ms.2 a f 2)) : zC) = .inl (0, 2, .inl (ms.2 2)); rw [show va_up ms.2 a f 2 = ms.2 2 from hv]
    · show (Sum.inl (0, 2, .inl (va_up ms.2 a f 3)) : zC) = .inl (0, 2, .inl (ms.2 3)); rw [show va_up ms.2 a f 3 = ms.2 3 from hv]
    · show (Sum.inl (0, 2, .inl (va_up ms.2 a f 4)) : zC) = .inl (0, 2, .inl (ms.2 4)); rw [show va_up ms.2 a f 4 = ms.2 4 from hv]
    · show (Sum.inl (0, 440, .inl (va_up ms.2 a f 5)) : zC) = .inl (0, 440, .inl (ms.2 5)); rw [show va_up ms.2 a f 5 = ms.2 5 from hv]
    · show (Sum.inl (0, 440, .inl (va_up ms.2 a f 6)) : zC) = .inl (0, 440, .inl (ms.2 6)); rw [show va_up ms.2 a f 6 = ms.2 6 from hv]
    · show (Sum.inl (0, 440, .inl (va_up ms.2 a f 7)) : zC) = .inl (0, 440, .inl (ms.2 7)); rw [show va_up ms.2 a f 7 = ms.2 7 from hv]
    · show (Sum.inl (0, 440, .inl (va_up ms.2 a f 8)) : zC) = .inl (0, 440, .inl (ms.2 8)); rw [show va_up ms.2 a f 8 = ms.2 8 from hv]
    · show (Sum.inl (0, 440, .inl (va_up ms.2 a f 9)) : zC) = .inl (0, 440, .inl (ms.2 9)); rw [show va_up ms.2 a f 9 = ms.2 9 from hv]
    · show (Sum.inl (0, 440, .inl (va_up ms.2 a f 10)) : zC) = .inl (0, 440, .inl (ms.2 10)); rw [show va_up ms.2 a f 10 = ms.2 10 from hv]
    · show (Sum.inl (0, 440, .inl (va_up ms.2 a f 11)) : zC) = .inl (0, 440, .inl (ms.2 11)); rw [show va_up ms.2 a f 11 = ms.2 11 from hv]
    · show (Sum.inl (1, 400, .inl (va_up ms.2 a f 12)) : zC) = .inl (1, 400, .inl (ms.2 12)); rw [show va_up ms.2 a f 12 = ms.2 12 from hv]
    · show (Sum.inl (1, 1200, .inl (va_up ms.2 a f 13)) : zC) = .inl (1, 1200, .inl (ms.2 13)); rw [show va_up ms.2 a f 13 = ms.2 13 from hv]
    · show (Sum.inl (1, 5, .inl (va_up ms.2 a f 14)) : zC) = .inl (1, 5, .inl (ms.2 14)); rw [show va_up ms.2 a f 14 = ms.2 14 from hv]
    · show (Sum.inl (1, 64, .inl (va_up ms.2 a f 15)) : zC) = .inl (1, 64, .inl (ms.2 15)); rw [show va_up ms.2 a f 15 = ms.2 15 from hv]
    · show (Sum.inl (1, 96, .inl (va_up ms.2 a f 16)) : zC) = .inl (1, 96, .inl (ms.2 16)); rw [show va_up ms.2 a f 16 = ms.2 16 from hv]
    · show (Sum.inl (0, 16, .inl (va_up ms.2 a f 17)) : zC) = .inl (0, 16, .inl (ms.2 17)); rw [show va_up ms.2 a f 17 = ms.2 17 from hv]
    · show (Sum.inl (3, 100, .inl (va_up ms.2 a f 18)) : zC) = .inl (3, 100, .inl (ms.2 18)); rw [show va_up ms.2 a f 18 = ms.2 18 from hv]
    · show (Sum.inl (0, 100, .inl (va_up ms.2 a f 19)) : zC) = .inl (0, 100, .inl (ms.2 19)); rw [show va_up ms.2 a f 19 = ms.2 19 from hv]
    · show (Sum.inl (0, 200, .inl (va_up ms.2 a f 20)) : zC) = .inl (0, 200, .inl (ms.2 20)); rw [show va_up ms.2 a f 20 = ms.2 20 from hv]
    · show (Sum.inl (1, 2400, .inl (va_up ms.2 a f 21)) : zC) = .inl (1, 2400, .inl (ms.2 21)); rw [show va_up ms.2 a f 21 = ms.2 21 from hv]
    · show (Sum.inl (0, 101, .inl (va_up ms.2 a f 22)) : zC) = .inl (0, 101, .inl (ms.2 22)); rw [show va_up ms.2 a f 22 = ms.2 22 from hv]
    · show (Sum.inl (0, 1212, .inl (va_up ms.2 a f 23)) : zC) = .inl (0, 1212, .inl (ms.2 23)); rw [show va_up ms.2 a f 23 = ms.2 23 from hv]
    · show (Sum.inl (0, 1212, .inl (va_up ms.2 a f 24)) : zC) = .inl (0, 1212, .inl (ms.2 24)); rw [show va_up ms.2 a f 24 = ms.2 24 from hv]
    · show (Sum.inl (1, 800, .inl (va_up ms.2 a f 25)) : zC) = .inl (1, 800, .inl (ms.2 25)); rw [show va_up ms.2 a f 25 = ms.2 25 from hv]
    · show (Sum.inl (1, 5, .inl (va_up ms.2 a f 26)) : zC) = .inl (1, 5, .inl (ms.2 26)); rw [show va_up ms.2 a f 26 = ms.2 26 from hv]
theorem mcell_fld {ms : zMS} {k : Nat} {v : Int32} {i : Nat} (hi : i < 27) (hn : i ≠ 0) : mcell (va_up ms.1 k v, ms.2) i = mcell ms i := by
  rcases (show i = 1 ∨ i = 2 ∨ i = 3 ∨ i = 4 ∨ i = 5 ∨ i = 6 ∨ i = 7 ∨ i = 8 ∨ i = 9 ∨ i = 10 ∨ i = 11 ∨ i = 12 ∨ i = 13 ∨ i = 14 ∨ i = 15 ∨ i = 16 ∨ i = 17 ∨ i = 18 ∨ i = 19 ∨ i = 20 ∨ i = 21 ∨ i = 22 ∨ i = 23 ∨ i = 24 ∨ i = 25 ∨ i = 26 by omega) with rfl | rfl | rfl | rfl | rfl | rfl | rfl | rfl | rfl | rfl | rfl | rfl | rfl | rfl | rfl | rfl | rfl | rfl | rfl | rfl | rfl | rfl | rfl | rfl | rfl | rfl <;> rfl
theorem zR.retE {X : zX} {d j pc : Nat} {L : zL} {st : List Value} {h : zH} {u : Option Value × zH} {v : Option Value} {i : Jvm.ClassFile.Instr} (hi : zins j pc = some i) (hr : zret (zrt j) i st = some v) (hu : u = (v, h)) : zR X d j pc L st h u := by
  subst hu
  exact zR.ret hi hr
def zb (b : Bool) : Int32 := if b = true then 1 else 0
section MR
variable {X : zX} {d j pc : Nat} {L : zL} {r : List Value} {g : zH} {ms : zMS} {u : Option Value × zH}
theorem mr_iastore (a n : Nat) {i x : Int32} (hi : zins j pc = some .iastore) (ha : mcell ms a = .inl (0, n, .inl (ms.2 a))) (ha2 : mcell (ms.1, va_up ms.2 a (upd (ms.2 a) i.toNatClampNeg (vp_nar .int x))) a = .inl (0, n, .inl (upd (ms.2 a) i.toNatClampNeg (vp_nar .int x)))) (hk : a < 27) (hin : 0 ≤ i.toInt ∧ i.toInt < n) (k : zR X d j (pc + 1) L r (mset g (ms.1, va_up ms.2 a (upd (ms.2 a) i.toNatClampNeg (vp_nar .int x)))) u) : zR X d j pc L (.int x :: .int i :: .ref (129 + a) :: r) (mset g ms) u := by
  refine zr_iastore hi (by rw [mset_at hk, ha]) hin ?_
  rw [← ha2, mset_wr hk (fun i h1 h2 => mcell_arr h1 h2)]
  exact k
theorem mr_castore (a n : Nat) {i x : Int32} (hi : zins j pc = some .castore) (ha : mcell ms a = .inl (1, n, .inl (ms.2 a))) (ha2 : mcell (ms.1, va_up ms.2 a (upd (ms.2 a) i.toNatClampNeg (vp_nar .char x))) a = .inl (1, n, .inl (upd (ms.2 a) i.toNatClampNeg (vp_nar .char x)))) (hk : a < 27) (hin : 0 ≤ i.toInt ∧ i.toInt < n) (k : zR X d j (pc + 1) L r (mset g (ms.1, va_up ms.2 a (upd (ms.2 a) i.toNatClampNeg (vp_nar .char x)))) u) : zR X d j pc L (.int x :: .int i :: .ref (129 + a) :: r) (mset g ms) u := by
  refine zr_castore hi (by rw [mset_at hk, ha]) hin ?_
  rw [← ha2, mset_wr hk (fun i h1 h2 => mcell_arr h1 h2)]
  exact k
theorem mr_bastore (a n : Nat) {i x : Int32} (hi : zins j pc = some .bastore) (ha : mcell ms a = .inl (3, n, .inl (ms.2 a))) (ha2 : mcell (ms.1, va_up ms.2 a (upd (ms.2 a) i.toNatClampNeg (vp_nar .boolean x))) a = .inl (3, n, .inl (upd (ms.2 a) i.toNatClampNeg (vp_nar .boolean x)))) (hk : a < 27) (hin : 0 ≤ i.toInt ∧ i.toInt < n) (k : zR X d j (pc + 1) L r (mset g (ms.1, va_up ms.2 a (upd (ms.2 a) i.toNatClampNeg (vp_nar .boolean x)))) u) : zR X d j pc L (.int x :: .int i :: .ref (129 + a) :: r) (mset g ms) u := by
  refine zr_bastore hi (by rw [mset_at hk, ha]) hin ?_
  rw [← ha2, mset_wr hk (fun i h1 h2 => mcell_arr h1 h2)]
  exact k
theorem mr_putf {i kf kk : Nat} {v : Int32} {fs : List Value} {ne : Bool} (hi : zins j pc = some (.putfield i)) (hf : zfl (zown j) i = some (9, kf, ne)) (hc : mcell ms 0 = .inr (9, fs)) (hl : kf < fs.length) (ht : zfit (zty 9 kf) (.int v) = true) (hn : zfin 9 kf = false) (hk : (.inr (9, fs.set kf (.int v)) : zC) = mcell (va_up ms.1 kk v, ms.2) 0) (k : zR X d j (pc + 3) L r (mset g (va_up ms.1 kk v, ms.2)) u) : zR X d j pc L (.int v :: .ref 129 :: r) (mset g ms) u := by
  refine zr_putf hi (by rw [← hc]; exact mset_at (k := 0) (by decide)) hf hl ht (Or.inl hn) ?_
  rw [hk]
  have e := mset_wr (g := g) (ms := ms) (ms' := (va_up ms.1 kk v, ms.2)) (k := 0) (by decide) (fun i h1 h2 => mcell_fld h1 h2)
  rw [show (129 : Nat) = 129 + 0 from rfl, e]
  exact k
end MR
end
section
/-! RULES over small numbers -/
section ZRN
variable {X : zX} {d j pc : Nat} {L : zL} {r : List Value} {h : zH} {u : Option Value × zH}
theorem nb {k n : Nat} (h : k < n) (hn : n < 2 ^ 31) : 0 ≤ (nI k).toInt ∧ (nI k).toInt < n := by
  rw [nI_toInt (by omega)]
  omega
theorem zn_iconst {n : Int} (k : Nat) (hi : zins j pc = some (.iconst n)) (hv : Int32.ofInt n = nI k) (kk : zR X d j (pc + 1) L (.int (nI k) :: r) h u) : zR X d j pc L r h u := zr_iconst hi hv kk
theorem zn_bipush {n : Int} (k : Nat) (hi : zins j pc = some (.bipush n)) (hv : (Int8.ofInt n).toInt32 = nI k) (kk : zR X d j (pc + 2) L (.int (nI k) :: r) h u) : zR X d j pc L r h u := zr_bipush hi hv kk
theorem zn_sipush {n : Int} (k : Nat) (hi : zins j pc = some (.sipush n)) (hv : (Int16.ofInt n).toInt32 = nI k) (kk : zR X d j (pc + 3) L (.int (nI k) :: r) h u) : zR X d j pc L r h u := zr_sipush hi hv kk
theorem zn_iadd {a b : Nat} (hi : zins j pc = some .iadd) (k : zR X d j (pc + 1) L (.int (nI (a + b)) :: r) h u) : zR X d j pc L (.int (nI b) :: .int (nI a) :: r) h u := zr_iadd hi (by rw [nI_add]; exact k)
theorem zn_imul {a b : Nat} (hi : zins j pc = some .imul) (k : zR X d j (pc + 1) L (.int (nI (a * b)) :: r) h u) : zR X d j pc L (.int (nI b) :: .int (nI a) :: r) h u := zr_imul hi (by rw [pk_mul]; exact k)
theorem zn_isub {a b : Nat} (hi : zins j pc = some .isub) (hb : b ≤ a) (k : zR X d j (pc + 1) L (.int (nI (a - b)) :: r) h u) : zR X d j pc L (.int (nI b) :: .int (nI a) :: r) h u := zr_isub hi (by rw [pk_sub hb]; exact k)
theorem zn_iinc {i a : Nat} {L2 : zL} (hi : zins j pc = some (.iinc i 1)) (hl : L[i]? = some (some (.int (nI a)))) (h2 : zst1 L i (.int (nI (a + 1))) = some L2) (k : zR X d j (pc + 3) L2 r h u) : zR X d j pc L r h u := zr_iinc hi hl (v := nI (a + 1)) (nI_1 a) h2 k
theorem zn_icmp_lt {a b : Nat} {off : Int} (t : Nat) (hi : zins j pc = some (.if_icmp .lt off)) (ht : (pc : Int) + off = (t : Int)) (ha : a < 2 ^ 31) (hb : b < 2 ^ 31) (kt : a < b → zR X d j t L r h u) (kf : b ≤ a → zR X d j (pc + 3) L r h u) : zR X d j pc L (.int (nI b) :: .int (nI a) :: r) h u := zr_icmp_lt t hi ht (fun q => kt ((nI_ltI ha hb).mp q)) (fun q => kf (by have := mt (nI_ltI ha hb).mpr q; omega))
theorem zn_icmp_ge {a b : Nat} {off : Int} (t : Nat) (hi : zins j pc = some (.if_icmp .ge off)) (ht : (pc : Int) + off = (t : Int)) (ha : a < 2 ^ 31) (hb : b < 2 ^ 31) (kt : b ≤ a → zR X d j t L r h u) (kf : a < b → zR X d j (pc + 3) L r h u) : zR X d j pc L (.int (nI b) :: .int (nI a) :: r) h u := zr_icmp_ge t hi ht (fun q => kt ((nI_leI hb ha).mp q)) (fun q => kf (by have := mt (nI_leI hb ha).mpr q; omega))
theorem zn_icmp_gt {a b : Nat} {off : Int} (t : Nat) (hi : zins j pc = some (.if_icmp .gt off)) (ht : (pc : Int) + off = (t : Int)) (ha : a < 2 ^ 31) (hb : b < 2 ^ 31) (kt : b < a → zR X d j t L r h u) (kf : a ≤ b → zR X d j (pc + 3) L r h u) : zR X d j pc L (.int (nI b) :: .int (nI a) :: r) h u := zr_icmp_gt t hi ht (fun q => kt ((nI_ltI hb ha).mp q)) (fun q => kf (by have := mt (nI_ltI hb ha).mpr q; omega))
theorem zn_icmp_le {a b : Nat} {off : Int} (t : Nat) (hi : zins j pc = some (.if_icmp .le off)) (ht : (pc : Int) + off = (t : Int)) (ha : a < 2 ^ 31) (hb : b < 2 ^ 31) (kt : a ≤ b → zR X d j t L r h u) (kf : b < a → zR X d j (pc + 3) L r h u) : zR X d j pc L (.int (nI b) :: .int (nI a) :: r) h u := zr_icmp_le t hi ht (fun q => kt ((nI_leI ha hb).mp q)) (fun q => kf (by have := mt (nI_leI ha hb).mpr q; omega))
theorem zn_icmp_eq {a b : Nat} {off : Int} (t : Nat) (hi : zins j pc = some (.if_icmp .eq off)) (ht : (pc : Int) + off = (t : Int)) (ha : a < 2 ^ 31) (hb : b < 2 ^ 31) (kt : a = b → zR X d j t L r h u) (kf : a ≠ b → zR X d j (pc + 3) L r h u) : zR X d j pc L (.int (nI b) :: .int (nI a) :: r) h u := zr_icmp_eq t hi ht (fun q => kt ((nI_eq ha hb).mp q)) (fun q => kf (fun e => q ((nI_eq ha hb).mpr e)))
theorem zn_icmp_ne {a b : Nat} {off : Int} (t : Nat) (hi : zins j pc = some (.if_icmp .ne off)) (ht : (pc : Int) + off = (t : Int)) (ha : a < 2 ^ 31) (hb : b < 2 ^ 31) (kt : a ≠ b → zR X d j t L r h u) (kf : a = b → zR X d j (pc + 3) L r h u) : zR X d j pc L (.int (nI b) :: .int (nI a) :: r) h u := zr_icmp_ne t hi ht (fun q => kt (fun e => q ((nI_eq ha hb).mpr e))) (fun q => kf ((nI_eq ha hb).mp q))
theorem zn_iaload {a n k : Nat} {f : Nat → Int32} (hi : zins j pc = some .iaload) (hc : h.2.2 a = some (.inl (0, n, .inl f))) (hk : k < n) (hn : n < 2 ^ 31) (kk : zR X d j (pc + 1) L (.int (f k) :: r) h u) : zR X d j pc L (.int (nI k) :: .ref a :: r) h u := zr_iaload hi hc (nb hk hn) (by rw [nI_clamp (by omega)]; exact kk)
theorem zn_caload {a n k : Nat} {f : Nat → Int32} (hi : zins j pc = some .caload) (hc : h.2.2 a = some (.inl (1, n, .inl f))) (hk : k < n) (hn : n < 2 ^ 31) (kk : zR X d j (pc + 1) L (.int (f k) :: r) h u) : zR X d j pc L (.int (nI k) :: .ref a :: r) h u := zr_caload hi hc (nb hk hn) (by rw [nI_clamp (by omega)]; exact kk)
theorem zn_baload {a n k : Nat} {f : Nat → Int32} (hi : zins j pc = some .baload) (hc : h.2.2 a = some (.inl (3, n, .inl f))) (hk : k < n) (hn : n < 2 ^ 31) (kk : zR X d j (pc + 1) L (.int (f k) :: r) h u) : zR X d j pc L (.int (nI k) :: .ref a :: r) h u := zr_baload hi hc (nb hk hn) (by rw [nI_clamp (by omega)]; exact kk)
theorem zn_iastore {a n k : Nat} {f : Nat → Int32} {x : Int32} (hi : zins j pc = some .iastore) (hc : h.2.2 a = some (.inl (0, n, .inl f))) (hk : k < n) (hn : n < 2 ^ 31) (kk : zR X d j (pc + 1) L r (zwr h a (.inl (0, n, .inl (upd f k (vp_nar .int x))))) u) : zR X d j pc L (.int x :: .int (nI k) :: .ref a :: r) h u := zr_iastore hi hc (nb hk hn) (by rw [nI_clamp (by omega)]; exact kk)
theorem zn_castore {a n k : Nat} {f : Nat → Int32} {x : Int32} (hi : zins j pc = some .castore) (hc : h.2.2 a = some (.inl (1, n, .inl f))) (hk : k < n) (hn : n < 2 ^ 31) (kk : zR X d j (pc + 1) L r (zwr h a (.inl (1, n, .inl (upd f k (vp_nar .char x))))) u) : zR X d j pc L (.int x :: .int (nI k) :: .ref a :: r) h u := zr_castore hi hc (nb hk hn) (by rw [nI_clamp (by omega)]; exact kk)
theorem zn_bastore {a n k : Nat} {f : Nat → Int32} {x : Int32} (hi : zins j pc = some .bastore) (hc : h.2.2 a = some (.inl (3, n, .inl f))) (hk : k < n) (hn : n < 2 ^ 31) (kk : zR X d j (pc + 1) L r (zwr h a (.inl (3, n, .inl (upd f k (vp_nar .boolean x))))) u) : zR X d j pc L (.int x :: .int (nI k) :: .ref a :: r) h u := zr_bastore hi hc (nb hk hn) (by rw [nI_clamp (by omega)]; exact kk)
end ZRN
section MRN
variable {X : zX} {d j pc : Nat} {L : zL} {r : List Value} {g : zH} {ms : zMS} {u : Option Value × zH}
theorem mn_iastore (a n : Nat) {k : Nat} {x : Int32} (hi : zins j pc = some .iastore) (ha : ∀ z : zMS, mcell z a = .inl (0, n, .inl (z.2 a))) (hk : a < 27) (hin : k < n) (hn : n < 2 ^ 31) (kk : zR X d j (pc + 1) L r (mset g (ms.1, va_up ms.2 a (upd (ms.2 a) k (vp_nar .int x)))) u) : zR X d j pc L (.int x :: .int (nI k) :: .ref (129 + a) :: r) (mset g ms) u := by
  refine zn_iastore hi (by rw [mset_at hk, ha]) hin hn ?_
  have e : (.inl (0, n, .inl (upd (ms.2 a) k (vp_nar .int x))) : zC) = mcell (ms.1, va_up ms.2 a (upd (ms.2 a) k (vp_nar .int x))) a := by rw [ha]; dsimp only; rw [va_up_self]
  rw [e, mset_wr hk (fun i h1 h2 => mcell_arr h1 h2)]
  exact kk
theorem mn_castore (a n : Nat) {k : Nat} {x : Int32} (hi : zins j pc = some .castore) (ha : ∀ z : zMS, mcell z a = .inl (1, n, .inl (z.2 a))) (hk : a < 27) (hin : k < n) (hn : n < 2 ^ 31) (kk : zR X d j (pc + 1) L r (mset g (ms.1, va_up ms.2 a (upd (ms.2 a) k (vp_nar .char x)))) u) : zR X d j pc L (.int x :: .int (nI k) :: .ref (129 + a) :: r) (mset g ms) u := by
  refine zn_castore hi (by rw [mset_at hk, ha]) hin hn ?_
  have e : (.inl (1, n, .inl (upd (ms.2 a) k (vp_nar .char x))) : zC) = mcell (ms.1, va_up ms.2 a (upd (ms.2 a) k (vp_nar .char x))) a := by rw [ha]; dsimp only; rw [va_up_self]
  rw [e, mset_wr hk (fun i h1 h2 => mcell_arr h1 h2)]
  exact kk
theorem mn_bastore (a n : Nat) {k : Nat} {x : Int32} (hi : zins j pc = some .bastore) (ha : ∀ z : zMS, mcell z a = .inl (3, n, .inl (z.2 a))) (hk : a < 27) (hin : k < n) (hn : n < 2 ^ 31) (kk : zR X d j (pc + 1) L r (mset g (ms.1, va_up ms.2 a (upd (ms.2 a) k (vp_nar .boolean x)))) u) : zR X d j pc L (.int x :: .int (nI k) :: .ref (129 + a) :: r) (mset g ms) u := by
  refine zn_bastore hi (by rw [mset_at hk, ha]) hin hn ?_
  have e : (.inl (3, n, .inl (upd (ms.2 a) k (vp_nar .boolean x))) : zC) = mcell (ms.1, va_up ms.2 a (upd (ms.2 a) k (vp_nar .boolean x))) a := by rw [ha]; dsimp only; rw [va_up_self]
  rw [e, mset_wr hk (fun i h1 h2 => mcell_arr h1 h2)]
  exact kk
end MRN
end
section
/-! THE REFERENCE's small methods -/
theorem i_Mod_capital_0 : zins 104 0 = some (.iload_n 0) := by decide +kernel
theorem i_Mod_capital_1 : zins 104 1 = some (.bipush 65) := by decide +kernel
theorem i_Mod_capital_3 : zins 104 3 = some (.if_icmp .lt 13) := by decide +kernel
theorem i_Mod_capital_6 : zins 104 6 = some (.iload_n 0) := by decide +kernel
theorem i_Mod_capital_7 : zins 104 7 = some (.bipush 90) := by decide +kernel
theorem i_Mod_capital_9 : zins 104 9 = some (.if_icmp .gt 7) := by decide +kernel
theorem i_Mod_capital_12 : zins 104 12 = some (.iconst 1) := by decide +kernel
theorem i_Mod_capital_13 : zins 104 13 = some (.goto 4) := by decide +kernel
theorem i_Mod_capital_16 : zins 104 16 = some (.iconst 0) := by decide +kernel
theorem i_Mod_capital_17 : zins 104 17 = some (.ireturn) := by decide +kernel
def zcap (c : Int32) : Bool := !decide (c < 65) && !decide (90 < c)
theorem e_Mod_capital (X : zX) (d : Nat) (h : zH) (c : Int32) : zR X d 104 0 (zent 1 [.int c]) [] h (some (.int (zb (zcap c))), h) := by
  refine zr_iload_n i_Mod_capital_0 rfl ?_
  refine zr_bipush i_Mod_capital_1 (v := 65) (by decide) ?_
  refine zr_icmp_lt 16 i_Mod_capital_3 (by decide) (fun c_3 => ?_) (fun c_3 => ?_)
  · skip
    refine zr_iconst i_Mod_capital_16 (v := 0) (by decide) ?_
    exact zR.retE i_Mod_capital_17 rfl (by simp [zb, zcap, *])
  · skip
    refine zr_iload_n i_Mod_capital_6 rfl ?_
    refine zr_bipush i_Mod_capital_7 (v := 90) (by decide) ?_
    refine zr_icmp_gt 16 i_Mod_capital_9 (by decide) (fun c_9 => ?_) (fun c_9 => ?_)
    · skip
      refine zr_iconst i_Mod_capital_16 (v := 0) (by decide) ?_
      exact zR.retE i_Mod_capital_17 rfl (by simp [zb, zcap, *])
    · skip
      refine zr_iconst i_Mod_capital_12 (v := 1) (by decide) ?_
      refine zr_goto 17 i_Mod_capital_13 (by decide) ?_
      exact zR.retE i_Mod_capital_17 rfl (by simp [zb, zcap, *])
theorem i_Mod_small_0 : zins 105 0 = some (.iload_n 0) := by decide +kernel
theorem i_Mod_small_1 : zins 105 1 = some (.bipush 97) := by decide +kernel
theorem i_Mod_small_3 : zins 105 3 = some (.if_icmp .lt 13) := by decide +kernel
theorem i_Mod_small_6 : zins 105 6 = some (.iload_n 0) := by decide +kernel
theorem i_Mod_small_7 : zins 105 7 = some (.bipush 122) := by decide +kernel
theorem i_Mod_small_9 : zins 105 9 = some (.if_icmp .gt 7) := by decide +kernel
theorem i_Mod_small_12 : zins 105 12 = some (.iconst 1) := by decide +kernel
theorem i_Mod_small_13 : zins 105 13 = some (.goto 4) := by decide +kernel
theorem i_Mod_small_16 : zins 105 16 = some (.iconst 0) := by decide +kernel
theorem i_Mod_small_17 : zins 105 17 = some (.ireturn) := by decide +kernel
def zsml (c : Int32) : Bool := !decide (c < 97) && !decide (122 < c)
theorem e_Mod_small (X : zX) (d : Nat) (h : zH) (c : Int32) : zR X d 105 0 (zent 1 [.int c]) [] h (some (.int (zb (zsml c))), h) := by
  refine zr_iload_n i_Mod_small_0 rfl ?_
  refine zr_bipush i_Mod_small_1 (v := 97) (by decide) ?_
  refine zr_icmp_lt 16 i_Mod_small_3 (by decide) (fun c_3 => ?_) (fun c_3 => ?_)
  · skip
    refine zr_iconst i_Mod_small_16 (v := 0) (by decide) ?_
    exact zR.retE i_Mod_small_17 rfl (by simp [zb, zsml, *])
  · skip
    refine zr_iload_n i_Mod_small_6 rfl ?_
    refine zr_bipush i_Mod_small_7 (v := 122) (by decide) ?_
    refine zr_icmp_gt 16 i_Mod_small_9 (by decide) (fun c_9 => ?_) (fun c_9 => ?_)
    · skip
      refine zr_iconst i_Mod_small_16 (v := 0) (by decide) ?_
      exact zR.retE i_Mod_small_17 rfl (by simp [zb, zsml, *])
    · skip
      refine zr_iconst i_Mod_small_12 (v := 1) (by decide) ?_
      refine zr_goto 17 i_Mod_small_13 (by decide) ?_
      exact zR.retE i_Mod_small_17 rfl (by simp [zb, zsml, *])
theorem i_Mod_digit_0 : zins 106 0 = some (.iload_n 0) := by decide +kernel
theorem i_Mod_digit_1 : zins 106 1 = some (.bipush 48) := by decide +kernel
theorem i_Mod_digit_3 : zins 106 3 = some (.if_icmp .lt 13) := by decide +kernel
theorem i_Mod_digit_6 : zins 106 6 = some (.iload_n 0) := by decide +kernel
theorem i_Mod_digit_7 : zins 106 7 = some (.bipush 57) := by decide +kernel
theorem i_Mod_digit_9 : zins 106 9 = some (.if_icmp .gt 7) := by decide +kernel
theorem i_Mod_digit_12 : zins 106 12 = some (.iconst 1) := by decide +kernel
theorem i_Mod_digit_13 : zins 106 13 = some (.goto 4) := by decide +kernel
theorem i_Mod_digit_16 : zins 106 16 = some (.iconst 0) := by decide +kernel
theorem i_Mod_digit_17 : zins 106 17 = some (.ireturn) := by decide +kernel
def zdig (c : Int32) : Bool := !decide (c < 48) && !decide (57 < c)
theorem e_Mod_digit (X : zX) (d : Nat) (h : zH) (c : Int32) : zR X d 106 0 (zent 1 [.int c]) [] h (some (.int (zb (zdig c))), h) := by
  refine zr_iload_n i_Mod_digit_0 rfl ?_
  refine zr_bipush i_Mod_digit_1 (v := 48) (by decide) ?_
  refine zr_icmp_lt 16 i_Mod_digit_3 (by decide) (fun c_3 => ?_) (fun c_3 => ?_)
  · skip
    refine zr_iconst i_Mod_digit_16 (v := 0) (by decide) ?_
    exact zR.retE i_Mod_digit_17 rfl (by simp [zb, zdig, *])
  · skip
    refine zr_iload_n i_Mod_digit_6 rfl ?_
    refine zr_bipush i_Mod_digit_7 (v := 57) (by decide) ?_
    refine zr_icmp_gt 16 i_Mod_digit_9 (by decide) (fun c_9 => ?_) (fun c_9 => ?_)
    · skip
      refine zr_iconst i_Mod_digit_16 (v := 0) (by decide) ?_
      exact zR.retE i_Mod_digit_17 rfl (by simp [zb, zdig, *])
    · skip
      refine zr_iconst i_Mod_digit_12 (v := 1) (by decide) ?_
      refine zr_goto 17 i_Mod_digit_13 (by decide) ?_
      exact zR.retE i_Mod_digit_17 rfl (by simp [zb, zdig, *])
theorem i_Mod_isPatient_0 : zins 150 0 = some (.iload_n 0) := by decide +kernel
theorem i_Mod_isPatient_1 : zins 150 1 = some (.iconst 1) := by decide +kernel
theorem i_Mod_isPatient_2 : zins 150 2 = some (.if_icmp .lt 13) := by decide +kernel
theorem i_Mod_isPatient_5 : zins 150 5 = some (.iload_n 0) := by decide +kernel
theorem i_Mod_isPatient_6 : zins 150 6 = some (.bipush 99) := by decide +kernel
theorem i_Mod_isPatient_8 : zins 150 8 = some (.if_icmp .gt 7) := by decide +kernel
theorem i_Mod_isPatient_11 : zins 150 11 = some (.iconst 1) := by decide +kernel
theorem i_Mod_isPatient_12 : zins 150 12 = some (.goto 4) := by decide +kernel
theorem i_Mod_isPatient_15 : zins 150 15 = some (.iconst 0) := by decide +kernel
theorem i_Mod_isPatient_16 : zins 150 16 = some (.ireturn) := by decide +kernel
def zpat (c : Int32) : Bool := !decide (c < 1) && !decide (99 < c)
theorem e_Mod_isPatient (X : zX) (d : Nat) (h : zH) (c : Int32) : zR X d 150 0 (zent 1 [.int c]) [] h (some (.int (zb (zpat c))), h) := by
  refine zr_iload_n i_Mod_isPatient_0 rfl ?_
  refine zr_iconst i_Mod_isPatient_1 (v := 1) (by decide) ?_
  refine zr_icmp_lt 15 i_Mod_isPatient_2 (by decide) (fun c_2 => ?_) (fun c_2 => ?_)
  · skip
    refine zr_iconst i_Mod_isPatient_15 (v := 0) (by decide) ?_
    exact zR.retE i_Mod_isPatient_16 rfl (by simp [zb, zpat, *])
  · skip
    refine zr_iload_n i_Mod_isPatient_5 rfl ?_
    refine zr_bipush i_Mod_isPatient_6 (v := 99) (by decide) ?_
    refine zr_icmp_gt 15 i_Mod_isPatient_8 (by decide) (fun c_8 => ?_) (fun c_8 => ?_)
    · skip
      refine zr_iconst i_Mod_isPatient_15 (v := 0) (by decide) ?_
      exact zR.retE i_Mod_isPatient_16 rfl (by simp [zb, zpat, *])
    · skip
      refine zr_iconst i_Mod_isPatient_11 (v := 1) (by decide) ?_
      refine zr_goto 16 i_Mod_isPatient_12 (by decide) ?_
      exact zR.retE i_Mod_isPatient_16 rfl (by simp [zb, zpat, *])
theorem i_B_isCapital_0 : zins 7 0 = some (.iload_n 0) := by decide +kernel
theorem i_B_isCapital_1 : zins 7 1 = some (.bipush 65) := by decide +kernel
theorem i_B_isCapital_3 : zins 7 3 = some (.if_icmp .lt 13) := by decide +kernel
theorem i_B_isCapital_6 : zins 7 6 = some (.iload_n 0) := by decide +kernel
theorem i_B_isCapital_7 : zins 7 7 = some (.bipush 90) := by decide +kernel
theorem i_B_isCapital_9 : zins 7 9 = some (.if_icmp .gt 7) := by decide +kernel
theorem i_B_isCapital_12 : zins 7 12 = some (.iconst 1) := by decide +kernel
theorem i_B_isCapital_13 : zins 7 13 = some (.goto 4) := by decide +kernel
theorem i_B_isCapital_16 : zins 7 16 = some (.iconst 0) := by decide +kernel
theorem i_B_isCapital_17 : zins 7 17 = some (.ireturn) := by decide +kernel
def zcapB (c : Int32) : Bool := !decide (c < 65) && !decide (90 < c)
theorem e_B_isCapital (X : zX) (d : Nat) (h : zH) (c : Int32) : zR X d 7 0 (zent 1 [.int c]) [] h (some (.int (zb (zcapB c))), h) := by
  refine zr_iload_n i_B_isCapital_0 rfl ?_
  refine zr_bipush i_B_isCapital_1 (v := 65) (by decide) ?_
  refine zr_icmp_lt 16 i_B_isCapital_3 (by decide) (fun c_3 => ?_) (fun c_3 => ?_)
  · skip
    refine zr_iconst i_B_isCapital_16 (v := 0) (by decide) ?_
    exact zR.retE i_B_isCapital_17 rfl (by simp [zb, zcapB, *])
  · skip
    refine zr_iload_n i_B_isCapital_6 rfl ?_
    refine zr_bipush i_B_isCapital_7 (v := 90) (by decide) ?_
    refine zr_icmp_gt 16 i_B_isCapital_9 (by decide) (fun c_9 => ?_) (fun c_9 => ?_)
    · skip
      refine zr_iconst i_B_isCapital_16 (v := 0) (by decide) ?_
      exact zR.retE i_B_isCapital_17 rfl (by simp [zb, zcapB, *])
    · skip
      refine zr_iconst i_B_isCapital_12 (v := 1) (by decide) ?_
      refine zr_goto 17 i_B_isCapital_13 (by decide) ?_
      exact zR.retE i_B_isCapital_17 rfl (by simp [zb, zcapB, *])
theorem i_B_isSmall_0 : zins 8 0 = some (.iload_n 0) := by decide +kernel
theorem i_B_isSmall_1 : zins 8 1 = some (.bipush 97) := by decide +kernel
theorem i_B_isSmall_3 : zins 8 3 = some (.if_icmp .lt 13) := by decide +kernel
theorem i_B_isSmall_6 : zins 8 6 = some (.iload_n 0) := by decide +kernel
theorem i_B_isSmall_7 : zins 8 7 = some (.bipush 122) := by decide +kernel
theorem i_B_isSmall_9 : zins 8 9 = some (.if_icmp .gt 7) := by decide +kernel
theorem i_B_isSmall_12 : zins 8 12 = some (.iconst 1) := by decide +kernel
theorem i_B_isSmall_13 : zins 8 13 = some (.goto 4) := by decide +kernel
theorem i_B_isSmall_16 : zins 8 16 = some (.iconst 0) := by decide +kernel
theorem i_B_isSmall_17 : zins 8 17 = some (.ireturn) := by decide +kernel
def zsmlB (c : Int32) : Bool := !decide (c < 97) && !decide (122 < c)
theorem e_B_isSmall (X : zX) (d : Nat) (h : zH) (c : Int32) : zR X d 8 0 (zent 1 [.int c]) [] h (some (.int (zb (zsmlB c))), h) := by
  refine zr_iload_n i_B_isSmall_0 rfl ?_
  refine zr_bipush i_B_isSmall_1 (v := 97) (by decide) ?_
  refine zr_icmp_lt 16 i_B_isSmall_3 (by decide) (fun c_3 => ?_) (fun c_3 => ?_)
  · skip
    refine zr_iconst i_B_isSmall_16 (v := 0) (by decide) ?_
    exact zR.retE i_B_isSmall_17 rfl (by simp [zb, zsmlB, *])
  · skip
    refine zr_iload_n i_B_isSmall_6 rfl ?_
    refine zr_bipush i_B_isSmall_7 (v := 122) (by decide) ?_
    refine zr_icmp_gt 16 i_B_isSmall_9 (by decide) (fun c_9 => ?_) (fun c_9 => ?_)
    · skip
      refine zr_iconst i_B_isSmall_16 (v := 0) (by decide) ?_
      exact zR.retE i_B_isSmall_17 rfl (by simp [zb, zsmlB, *])
    · skip
      refine zr_iconst i_B_isSmall_12 (v := 1) (by decide) ?_
      refine zr_goto 17 i_B_isSmall_13 (by decide) ?_
      exact zR.retE i_B_isSmall_17 rfl (by simp [zb, zsmlB, *])
theorem i_B_isDigit_0 : zins 9 0 = some (.iload_n 0) := by decide +kernel
theorem i_B_isDigit_1 : zins 9 1 = some (.bipush 48) := by decide +kernel
theorem i_B_isDigit_3 : zins 9 3 = some (.if_icmp .lt 13) := by decide +kernel
theorem i_B_isDigit_6 : zins 9 6 = some (.iload_n 0) := by decide +kernel
theorem i_B_isDigit_7 : zins 9 7 = some (.bipush 57) := by decide +kernel
theorem i_B_isDigit_9 : zins 9 9 = some (.if_icmp .gt 7) := by decide +kernel
theorem i_B_isDigit_12 : zins 9 12 = some (.iconst 1) := by decide +kernel
theorem i_B_isDigit_13 : zins 9 13 = some (.goto 4) := by decide +kernel
theorem i_B_isDigit_16 : zins 9 16 = some (.iconst 0) := by decide +kernel
theorem i_B_isDigit_17 : zins 9 17 = some (.ireturn) := by decide +kernel
def zdigB (c : Int32) : Bool := !decide (c < 48) && !decide (57 < c)
theorem e_B_isDigit (X : zX) (d : Nat) (h : zH) (c : Int32) : zR X d 9 0 (zent 1 [.int c]) [] h (some (.int (zb (zdigB c))), h) := by
  refine zr_iload_n i_B_isDigit_0 rfl ?_
  refine zr_bipush i_B_isDigit_1 (v := 48) (by decide) ?_
  refine zr_icmp_lt 16 i_B_isDigit_3 (by decide) (fun c_3 => ?_) (fun c_3 => ?_)
  · skip
    refine zr_iconst i_B_isDigit_16 (v := 0) (by decide) ?_
    exact zR.retE i_B_isDigit_17 rfl (by simp [zb, zdigB, *])
  · skip
    refine zr_iload_n i_B_isDigit_6 rfl ?_
    refine zr_bipush i_B_isDigit_7 (v := 57) (by decide) ?_
    refine zr_icmp_gt 16 i_B_isDigit_9 (by decide) (fun c_9 => ?_) (fun c_9 => ?_)
    · skip
      refine zr_iconst i_B_isDigit_16 (v := 0) (by decide) ?_
      exact zR.retE i_B_isDigit_17 rfl (by simp [zb, zdigB, *])
    · skip
      refine zr_iconst i_B_isDigit_12 (v := 1) (by decide) ?_
      refine zr_goto 17 i_B_isDigit_13 (by decide) ?_
      exact zR.retE i_B_isDigit_17 rfl (by simp [zb, zdigB, *])
end
section
/-! THE REFERENCE: reading the frame -/
theorem zretC {x : Int32} (hx : narrow .char (.int x) = .int x) : zret (some .char) .ireturn [.int x] = some (some (.int x)) := by
  unfold zret
  dsimp only
  rw [if_pos (show zrfit (some .char) x = true from decide_eq_true hx)]
theorem zchN {q : Nat} (h : q < 65536) : narrow .char (.int (nI q)) = .int (nI q) := (pk_charN h).1
theorem zch0 : narrow .char (.int 0) = .int 0 := by decide
theorem zr_top {X : zX} {d j pc : Nat} {L : zL} {r : List Value} {h : zH} {u : Option Value × zH} {x y : Int32} (e : x = y) (k : zR X d j pc L (.int y :: r) h u) : zR X d j pc L (.int x :: r) h u := by rw [e]; exact k
theorem zb_eq0 {b : Bool} : zb b = 0 ↔ b = false := by cases b <;> simp [zb]
def mhex (c : Int32) : Int32 := if zdig c = true then c - 48 else if c < 65 then -1 else if 70 < c then -1 else c - 65 + 10
theorem i_Mod_hex_0 : zins 112 0 = some (.iload_n 0) := by decide +kernel
theorem i_Mod_hex_1 : zins 112 1 = some (.invokestatic 109) := by decide +kernel
theorem i_Mod_hex_4 : zins 112 4 = some (.ifCond .eq 10) := by decide +kernel
theorem i_Mod_hex_7 : zins 112 7 = some (.iload_n 0) := by decide +kernel
theorem i_Mod_hex_8 : zins 112 8 = some (.bipush 48) := by decide +kernel
theorem i_Mod_hex_10 : zins 112 10 = some (.isub) := by decide +kernel
theorem i_Mod_hex_11 : zins 112 11 = some (.goto 26) := by decide +kernel
theorem i_Mod_hex_14 : zins 112 14 = some (.iload_n 0) := by decide +kernel
theorem i_Mod_hex_15 : zins 112 15 = some (.bipush 65) := by decide +kernel
theorem i_Mod_hex_17 : zins 112 17 = some (.if_icmp .lt 19) := by decide +kernel
theorem i_Mod_hex_20 : zins 112 20 = some (.iload_n 0) := by decide +kernel
theorem i_Mod_hex_21 : zins 112 21 = some (.bipush 70) := by decide +kernel
theorem i_Mod_hex_23 : zins 112 23 = some (.if_icmp .gt 13) := by decide +kernel
theorem i_Mod_hex_26 : zins 112 26 = some (.iload_n 0) := by decide +kernel
theorem i_Mod_hex_27 : zins 112 27 = some (.bipush 65) := by decide +kernel
theorem i_Mod_hex_29 : zins 112 29 = some (.isub) := by decide +kernel
theorem i_Mod_hex_30 : zins 112 30 = some (.bipush 10) := by decide +kernel
theorem i_Mod_hex_32 : zins 112 32 = some (.iadd) := by decide +kernel
theorem i_Mod_hex_33 : zins 112 33 = some (.goto 4) := by decide +kernel
theorem i_Mod_hex_36 : zins 112 36 = some (.iconst (-1)) := by decide +kernel
theorem i_Mod_hex_37 : zins 112 37 = some (.ireturn) := by decide +kernel
theorem e_Mod_hex (X : zX) (d : Nat) (h : zH) (c : Int32) : zR X (d + 1) 112 0 (zent 1 [.int c]) [] h (some (.int (mhex c)), h) := by
  refine zr_iload_n i_Mod_hex_0 rfl ?_
  refine zr_cs1 i_Mod_hex_1 rfl (by decide) (Nat.le_of_ble_eq_true rfl) (Nat.le_of_ble_eq_true rfl) (e_Mod_digit X d h c) ?_
  refine zr_if_eq 14 i_Mod_hex_4 (by decide) (fun c_4 => ?_) (fun c_4 => ?_)
  · skip
    refine zr_iload_n i_Mod_hex_14 rfl ?_
    refine zr_bipush i_Mod_hex_15 (v := 65) (by decide) ?_
    refine zr_icmp_lt 36 i_Mod_hex_17 (by decide) (fun c_17 => ?_) (fun c_17 => ?_)
    · skip
      refine zr_iconst i_Mod_hex_36 (v := (-1)) (by decide) ?_
      exact zR.retE i_Mod_hex_37 rfl (by simp only [zb_eq0] at c_4; simp [mhex, *])
    · skip
      refine zr_iload_n i_Mod_hex_20 rfl ?_
      refine zr_bipush i_Mod_hex_21 (v := 70) (by decide) ?_
      refine zr_icmp_gt 36 i_Mod_hex_23 (by decide) (fun c_23 => ?_) (fun c_23 => ?_)
      · skip
        refine zr_iconst i_Mod_hex_36 (v := (-1)) (by decide) ?_
        exact zR.retE i_Mod_hex_37 rfl (by simp only [zb_eq0] at c_4; simp [mhex, *])
      · skip
        refine zr_iload_n i_Mod_hex_26 rfl ?_
        refine zr_bipush i_Mod_hex_27 (v := 65) (by decide) ?_
        refine zr_isub i_Mod_hex_29 ?_
        refine zr_bipush i_Mod_hex_30 (v := 10) (by decide) ?_
        refine zr_iadd i_Mod_hex_32 ?_
        refine zr_goto 37 i_Mod_hex_33 (by decide) ?_
        exact zR.retE i_Mod_hex_37 rfl (by simp only [zb_eq0] at c_4; simp [mhex, *])
  · skip
    refine zr_iload_n i_Mod_hex_7 rfl ?_
    refine zr_bipush i_Mod_hex_8 (v := 48) (by decide) ?_
    refine zr_isub i_Mod_hex_10 ?_
    refine zr_goto 37 i_Mod_hex_11 (by decide) ?_
    exact zR.retE i_Mod_hex_37 rfl (by simp only [zb_eq0] at c_4; simp [mhex, *])
theorem i_Mod_now_0 : zins 102 0 = some (.aload_n 0) := by decide +kernel
theorem i_Mod_now_1 : zins 102 1 = some (.getfield 112) := by decide +kernel
theorem i_Mod_now_4 : zins 102 4 = some (.iload_n 1) := by decide +kernel
theorem i_Mod_now_5 : zins 102 5 = some (.iadd) := by decide +kernel
theorem i_Mod_now_6 : zins 102 6 = some (.aload_n 0) := by decide +kernel
theorem i_Mod_now_7 : zins 102 7 = some (.getfield 98) := by decide +kernel
theorem i_Mod_now_10 : zins 102 10 = some (.if_icmp .ge 17) := by decide +kernel
theorem i_Mod_now_13 : zins 102 13 = some (.aload_n 0) := by decide +kernel
theorem i_Mod_now_14 : zins 102 14 = some (.getfield 7) := by decide +kernel
theorem i_Mod_now_17 : zins 102 17 = some (.aload_n 0) := by decide +kernel
theorem i_Mod_now_18 : zins 102 18 = some (.getfield 112) := by decide +kernel
theorem i_Mod_now_21 : zins 102 21 = some (.iload_n 1) := by decide +kernel
theorem i_Mod_now_22 : zins 102 22 = some (.iadd) := by decide +kernel
theorem i_Mod_now_23 : zins 102 23 = some (.caload) := by decide +kernel
theorem i_Mod_now_24 : zins 102 24 = some (.goto 4) := by decide +kernel
theorem i_Mod_now_27 : zins 102 27 = some (.iconst 0) := by decide +kernel
theorem i_Mod_now_28 : zins 102 28 = some (.ireturn) := by decide +kernel
theorem e_Mod_now (X : zX) (d : Nat) (g : zH) (ms : zMS) (n a k : Nat) (h0 : ms.1 0 = nI n) (h1 : ms.1 1 = nI a) (hn : n ≤ 200) (hak : a + k < 2 ^ 30) (hc : ∀ i, i < n → narrow .char (.int (ms.2 1 i)) = .int (ms.2 1 i)) : zR X d 102 0 (zent 2 [.ref 129, .int (nI k)]) [] (mset g ms) (some (.int (if a + k < n then ms.2 1 (a + k) else 0)), mset g ms) := by
  refine zr_aload_n i_Mod_now_0 rfl ?_
  refine zr_getf i_Mod_now_1 rfl rfl rfl ?_
  refine zr_top (y := nI a) h1 ?_
  refine zr_iload_n i_Mod_now_4 rfl ?_
  refine zn_iadd i_Mod_now_5 ?_
  refine zr_aload_n i_Mod_now_6 rfl ?_
  refine zr_getf i_Mod_now_7 rfl rfl rfl ?_
  refine zr_top (y := nI n) h0 ?_
  refine zn_icmp_ge 27 i_Mod_now_10 (by decide) (by omega) (by omega) (fun c_10 => ?_) (fun c_10 => ?_)
  · skip
    refine zn_iconst 0 i_Mod_now_27 (by decide) ?_
    first
      | exact zR.retE i_Mod_now_28 (zretC zch0) (by rw [if_neg (by omega)]; rfl)
      | exact zR.retE i_Mod_now_28 (zretC (hc _ (by omega))) (by rw [if_pos (by omega)])
  · skip
    refine zr_aload_n i_Mod_now_13 rfl ?_
    refine zr_getf i_Mod_now_14 rfl rfl rfl ?_
    refine zr_aload_n i_Mod_now_17 rfl ?_
    refine zr_getf i_Mod_now_18 rfl rfl rfl ?_
    refine zr_top (y := nI a) h1 ?_
    refine zr_iload_n i_Mod_now_21 rfl ?_
    refine zn_iadd i_Mod_now_22 ?_
    refine zn_caload i_Mod_now_23 rfl (by omega) (by decide) ?_
    refine zr_goto 28 i_Mod_now_24 (by decide) ?_
    first
      | exact zR.retE i_Mod_now_28 (zretC zch0) (by rw [if_neg (by omega)]; rfl)
      | exact zR.retE i_Mod_now_28 (zretC (hc _ (by omega))) (by rw [if_pos (by omega)])
/-- a further text: its segment and numbers, where its letters begin -/
def mopen (ms : zMS) (t : Nat) (f r c s : Int32) : zMS := (ms.1, va_up (va_up (va_up (va_up (va_up (va_up (va_up (va_up ms.2 5 (upd (ms.2 5) t (ms.2 2 0))) 6 (upd (ms.2 6) t f)) 7 (upd (ms.2 7) t r)) 8 (upd (ms.2 8) t c)) 9 (upd (ms.2 9) t s)) 10 (upd (ms.2 10) t (ms.2 4 0))) 11 (upd (ms.2 11) t 0)) 3 (upd (ms.2 3) 0 (nI (t + 1))))
theorem i_Mod_open_0 : zins 113 0 = some (.aload_n 0) := by decide +kernel
theorem i_Mod_open_1 : zins 113 1 = some (.getfield 17) := by decide +kernel
theorem i_Mod_open_4 : zins 113 4 = some (.iconst 0) := by decide +kernel
theorem i_Mod_open_5 : zins 113 5 = some (.iaload) := by decide +kernel
theorem i_Mod_open_6 : zins 113 6 = some (.istore 5) := by decide +kernel
theorem i_Mod_open_8 : zins 113 8 = some (.aload_n 0) := by decide +kernel
theorem i_Mod_open_9 : zins 113 9 = some (.getfield 23) := by decide +kernel
theorem i_Mod_open_12 : zins 113 12 = some (.iload 5) := by decide +kernel
theorem i_Mod_open_14 : zins 113 14 = some (.aload_n 0) := by decide +kernel
theorem i_Mod_open_15 : zins 113 15 = some (.getfield 13) := by decide +kernel
theorem i_Mod_open_18 : zins 113 18 = some (.iconst 0) := by decide +kernel
theorem i_Mod_open_19 : zins 113 19 = some (.iaload) := by decide +kernel
theorem i_Mod_open_20 : zins 113 20 = some (.iastore) := by decide +kernel
theorem i_Mod_open_21 : zins 113 21 = some (.aload_n 0) := by decide +kernel
theorem i_Mod_open_22 : zins 113 22 = some (.getfield 26) := by decide +kernel
theorem i_Mod_open_25 : zins 113 25 = some (.iload 5) := by decide +kernel
theorem i_Mod_open_27 : zins 113 27 = some (.iload_n 1) := by decide +kernel
theorem i_Mod_open_28 : zins 113 28 = some (.iastore) := by decide +kernel
theorem i_Mod_open_29 : zins 113 29 = some (.aload_n 0) := by decide +kernel
theorem i_Mod_open_30 : zins 113 30 = some (.getfield 29) := by decide +kernel
theorem i_Mod_open_33 : zins 113 33 = some (.iload 5) := by decide +kernel
theorem i_Mod_open_35 : zins 113 35 = some (.iload_n 2) := by decide +kernel
theorem i_Mod_open_36 : zins 113 36 = some (.iastore) := by decide +kernel
theorem i_Mod_open_37 : zins 113 37 = some (.aload_n 0) := by decide +kernel
theorem i_Mod_open_38 : zins 113 38 = some (.getfield 32) := by decide +kernel
theorem i_Mod_open_41 : zins 113 41 = some (.iload 5) := by decide +kernel
theorem i_Mod_open_43 : zins 113 43 = some (.iload_n 3) := by decide +kernel
theorem i_Mod_open_44 : zins 113 44 = some (.iastore) := by decide +kernel
theorem i_Mod_open_45 : zins 113 45 = some (.aload_n 0) := by decide +kernel
theorem i_Mod_open_46 : zins 113 46 = some (.getfield 35) := by decide +kernel
theorem i_Mod_open_49 : zins 113 49 = some (.iload 5) := by decide +kernel
theorem i_Mod_open_51 : zins 113 51 = some (.iload 4) := by decide +kernel
theorem i_Mod_open_53 : zins 113 53 = some (.iastore) := by decide +kernel
theorem i_Mod_open_54 : zins 113 54 = some (.aload_n 0) := by decide +kernel
theorem i_Mod_open_55 : zins 113 55 = some (.getfield 38) := by decide +kernel
theorem i_Mod_open_58 : zins 113 58 = some (.iload 5) := by decide +kernel
theorem i_Mod_open_60 : zins 113 60 = some (.aload_n 0) := by decide +kernel
theorem i_Mod_open_61 : zins 113 61 = some (.getfield 20) := by decide +kernel
theorem i_Mod_open_64 : zins 113 64 = some (.iconst 0) := by decide +kernel
theorem i_Mod_open_65 : zins 113 65 = some (.iaload) := by decide +kernel
theorem i_Mod_open_66 : zins 113 66 = some (.iastore) := by decide +kernel
theorem i_Mod_open_67 : zins 113 67 = some (.aload_n 0) := by decide +kernel
theorem i_Mod_open_68 : zins 113 68 = some (.getfield 41) := by decide +kernel
theorem i_Mod_open_71 : zins 113 71 = some (.iload 5) := by decide +kernel
theorem i_Mod_open_73 : zins 113 73 = some (.iconst 0) := by decide +kernel
theorem i_Mod_open_74 : zins 113 74 = some (.iastore) := by decide +kernel
theorem i_Mod_open_75 : zins 113 75 = some (.aload_n 0) := by decide +kernel
theorem i_Mod_open_76 : zins 113 76 = some (.getfield 17) := by decide +kernel
theorem i_Mod_open_79 : zins 113 79 = some (.iconst 0) := by decide +kernel
theorem i_Mod_open_80 : zins 113 80 = some (.dup2) := by decide +kernel
theorem i_Mod_open_81 : zins 113 81 = some (.iaload) := by decide +kernel
theorem i_Mod_open_82 : zins 113 82 = some (.iconst 1) := by decide +kernel
theorem i_Mod_open_83 : zins 113 83 = some (.iadd) := by decide +kernel
theorem i_Mod_open_84 : zins 113 84 = some (.iastore) := by decide +kernel
theorem i_Mod_open_85 : zins 113 85 = some (.return_) := by decide +kernel
theorem e_Mod_open (X : zX) (d : Nat) (g : zH) (ms : zMS) (t : Nat) (f r c s : Int32) (ht : ms.2 3 0 = nI t) (hl : t < 440) : zR X d 113 0 (zent 6 [.ref 129, .int f, .int r, .int c, .int s]) [] (mset g ms) (none, mset g (mopen ms t f r c s)) := by
  refine zr_aload_n i_Mod_open_0 rfl ?_
  refine zr_getf i_Mod_open_1 rfl rfl rfl ?_
  refine zn_iconst 0 i_Mod_open_4 (by decide) ?_
  refine zn_iaload i_Mod_open_5 rfl (by omega) (by decide) ?_
  refine zr_top (y := nI t) ht ?_
  refine zr_istore i_Mod_open_6 rfl ?_
  refine zr_aload_n i_Mod_open_8 rfl ?_
  refine zr_getf i_Mod_open_9 rfl rfl rfl ?_
  refine zr_iload i_Mod_open_12 rfl ?_
  refine zr_aload_n i_Mod_open_14 rfl ?_
  refine zr_getf i_Mod_open_15 rfl rfl rfl ?_
  refine zn_iconst 0 i_Mod_open_18 (by decide) ?_
  refine zn_iaload i_Mod_open_19 rfl (by omega) (by decide) ?_
  refine mn_iastore 5 440 i_Mod_open_20 (fun _ => rfl) (by decide) (by omega) (by decide) ?_
  refine zr_aload_n i_Mod_open_21 rfl ?_
  refine zr_getf i_Mod_open_22 rfl rfl rfl ?_
  refine zr_iload i_Mod_open_25 rfl ?_
  refine zr_iload_n i_Mod_open_27 rfl ?_
  refine mn_iastore 6 440 i_Mod_open_28 (fun _ => rfl) (by decide) (by omega) (by decide) ?_
  refine zr_aload_n i_Mod_open_29 rfl ?_
  refine zr_getf i_Mod_open_30 rfl rfl rfl ?_
  refine zr_iload i_Mod_open_33 rfl ?_
  refine zr_iload_n i_Mod_open_35 rfl ?_
  refine mn_iastore 7 440 i_Mod_open_36 (fun _ => rfl) (by decide) (by omega) (by decide) ?_
  refine zr_aload_n i_Mod_open_37 rfl ?_
  refine zr_getf i_Mod_open_38 rfl rfl rfl ?_
  refine zr_iload i_Mod_open_41 rfl ?_
  refine zr_iload_n i_Mod_open_43 rfl ?_
  refine mn_iastore 8 440 i_Mod_open_44 (fun _ => rfl) (by decide) (by omega) (by decide) ?_
  refine zr_aload_n i_Mod_open_45 rfl ?_
  refine zr_getf i_Mod_open_46 rfl rfl rfl ?_
  refine zr_iload i_Mod_open_49 rfl ?_
  refine zr_iload i_Mod_open_51 rfl ?_
  refine mn_iastore 9 440 i_Mod_open_53 (fun _ => rfl) (by decide) (by omega) (by decide) ?_
  refine zr_aload_n i_Mod_open_54 rfl ?_
  refine zr_getf i_Mod_open_55 rfl rfl rfl ?_
  refine zr_iload i_Mod_open_58 rfl ?_
  refine zr_aload_n i_Mod_open_60 rfl ?_
  refine zr_getf i_Mod_open_61 rfl rfl rfl ?_
  refine zn_iconst 0 i_Mod_open_64 (by decide) ?_
  refine zn_iaload i_Mod_open_65 rfl (by omega) (by decide) ?_
  refine mn_iastore 10 440 i_Mod_open_66 (fun _ => rfl) (by decide) (by omega) (by decide) ?_
  refine zr_aload_n i_Mod_open_67 rfl ?_
  refine zr_getf i_Mod_open_68 rfl rfl rfl ?_
  refine zr_iload i_Mod_open_71 rfl ?_
  refine zn_iconst 0 i_Mod_open_73 (by decide) ?_
  refine mn_iastore 11 440 i_Mod_open_74 (fun _ => rfl) (by decide) (by omega) (by decide) ?_
  refine zr_aload_n i_Mod_open_75 rfl ?_
  refine zr_getf i_Mod_open_76 rfl rfl rfl ?_
  refine zn_iconst 0 i_Mod_open_79 (by decide) ?_
  refine zr_dup2 i_Mod_open_80 rfl rfl ?_
  refine zn_iaload i_Mod_open_81 rfl (by omega) (by decide) ?_
  refine zr_top (y := nI t) ht ?_
  refine zn_iconst 1 i_Mod_open_82 (by decide) ?_
  refine zn_iadd i_Mod_open_83 ?_
  refine mn_iastore 3 2 i_Mod_open_84 (fun _ => rfl) (by decide) (by omega) (by decide) ?_
  exact zR.retE i_Mod_open_85 rfl rfl
/-- a further letter of the last text -/
def madd (ms : zMS) (c t : Nat) (x : Int32) : zMS := (ms.1, va_up (va_up (va_up ms.2 12 (upd (ms.2 12) c (vp_nar .char x))) 4 (upd (ms.2 4) 0 (nI (c + 1)))) 11 (upd (ms.2 11) (t - 1) (ms.2 11 (t - 1) + 1)))
theorem i_Mod_add_0 : zins 111 0 = some (.aload_n 0) := by decide +kernel
theorem i_Mod_add_1 : zins 111 1 = some (.getfield 44) := by decide +kernel
theorem i_Mod_add_4 : zins 111 4 = some (.aload_n 0) := by decide +kernel
theorem i_Mod_add_5 : zins 111 5 = some (.getfield 20) := by decide +kernel
theorem i_Mod_add_8 : zins 111 8 = some (.iconst 0) := by decide +kernel
theorem i_Mod_add_9 : zins 111 9 = some (.iaload) := by decide +kernel
theorem i_Mod_add_10 : zins 111 10 = some (.iload_n 1) := by decide +kernel
theorem i_Mod_add_11 : zins 111 11 = some (.castore) := by decide +kernel
theorem i_Mod_add_12 : zins 111 12 = some (.aload_n 0) := by decide +kernel
theorem i_Mod_add_13 : zins 111 13 = some (.getfield 20) := by decide +kernel
theorem i_Mod_add_16 : zins 111 16 = some (.iconst 0) := by decide +kernel
theorem i_Mod_add_17 : zins 111 17 = some (.dup2) := by decide +kernel
theorem i_Mod_add_18 : zins 111 18 = some (.iaload) := by decide +kernel
theorem i_Mod_add_19 : zins 111 19 = some (.iconst 1) := by decide +kernel
theorem i_Mod_add_20 : zins 111 20 = some (.iadd) := by decide +kernel
theorem i_Mod_add_21 : zins 111 21 = some (.iastore) := by decide +kernel
theorem i_Mod_add_22 : zins 111 22 = some (.aload_n 0) := by decide +kernel
theorem i_Mod_add_23 : zins 111 23 = some (.getfield 41) := by decide +kernel
theorem i_Mod_add_26 : zins 111 26 = some (.aload_n 0) := by decide +kernel
theorem i_Mod_add_27 : zins 111 27 = some (.getfield 17) := by decide +kernel
theorem i_Mod_add_30 : zins 111 30 = some (.iconst 0) := by decide +kernel
theorem i_Mod_add_31 : zins 111 31 = some (.iaload) := by decide +kernel
theorem i_Mod_add_32 : zins 111 32 = some (.iconst 1) := by decide +kernel
theorem i_Mod_add_33 : zins 111 33 = some (.isub) := by decide +kernel
theorem i_Mod_add_34 : zins 111 34 = some (.dup2) := by decide +kernel
theorem i_Mod_add_35 : zins 111 35 = some (.iaload) := by decide +kernel
theorem i_Mod_add_36 : zins 111 36 = some (.iconst 1) := by decide +kernel
theorem i_Mod_add_37 : zins 111 37 = some (.iadd) := by decide +kernel
theorem i_Mod_add_38 : zins 111 38 = some (.iastore) := by decide +kernel
theorem i_Mod_add_39 : zins 111 39 = some (.return_) := by decide +kernel
theorem e_Mod_add (X : zX) (d : Nat) (g : zH) (ms : zMS) (c t : Nat) (x : Int32) (hc : ms.2 4 0 = nI c) (ht : ms.2 3 0 = nI t) (hcl : c < 400) (ht0 : 1 ≤ t) (htl : t ≤ 440) : zR X d 111 0 (zent 2 [.ref 129, .int x]) [] (mset g ms) (none, mset g (madd ms c t x)) := by
  refine zr_aload_n i_Mod_add_0 rfl ?_
  refine zr_getf i_Mod_add_1 rfl rfl rfl ?_
  refine zr_aload_n i_Mod_add_4 rfl ?_
  refine zr_getf i_Mod_add_5 rfl rfl rfl ?_
  refine zn_iconst 0 i_Mod_add_8 (by decide) ?_
  refine zn_iaload i_Mod_add_9 rfl (by omega) (by decide) ?_
  refine zr_top (y := nI c) hc ?_
  refine zr_iload_n i_Mod_add_10 rfl ?_
  refine mn_castore 12 400 i_Mod_add_11 (fun _ => rfl) (by decide) (by omega) (by decide) ?_
  refine zr_aload_n i_Mod_add_12 rfl ?_
  refine zr_getf i_Mod_add_13 rfl rfl rfl ?_
  refine zn_iconst 0 i_Mod_add_16 (by decide) ?_
  refine zr_dup2 i_Mod_add_17 rfl rfl ?_
  refine zn_iaload i_Mod_add_18 rfl (by omega) (by decide) ?_
  refine zr_top (y := nI c) hc ?_
  refine zn_iconst 1 i_Mod_add_19 (by decide) ?_
  refine zn_iadd i_Mod_add_20 ?_
  refine mn_iastore 4 2 i_Mod_add_21 (fun _ => rfl) (by decide) (by omega) (by decide) ?_
  refine zr_aload_n i_Mod_add_22 rfl ?_
  refine zr_getf i_Mod_add_23 rfl rfl rfl ?_
  refine zr_aload_n i_Mod_add_26 rfl ?_
  refine zr_getf i_Mod_add_27 rfl rfl rfl ?_
  refine zn_iconst 0 i_Mod_add_30 (by decide) ?_
  refine zn_iaload i_Mod_add_31 rfl (by omega) (by decide) ?_
  refine zr_top (y := nI t) ht ?_
  refine zn_iconst 1 i_Mod_add_32 (by decide) ?_
  refine zn_isub i_Mod_add_33 (by omega) ?_
  refine zr_dup2 i_Mod_add_34 rfl rfl ?_
  refine zn_iaload i_Mod_add_35 rfl (by omega) (by decide) ?_
  refine zr_iconst i_Mod_add_36 (v := 1) (by decide) ?_
  refine zr_iadd i_Mod_add_37 ?_
  refine mn_iastore 11 440 i_Mod_add_38 (fun _ => rfl) (by decide) (by omega) (by decide) ?_
  exact zR.retE i_Mod_add_39 rfl rfl
end
section
/-! THE REFERENCE: texts -/
/-- a place in a table, or none: -1 -/
def tI (o : Option Nat) : Int32 := match o with
  | some k => nI k
  | none => -1
def moff (k : Nat) : Nat := if k < 220 then 0 else 200
/-- text k has ln letters, from b on in its half of the row of letters -/
def mtxt (ms : zMS) (k ln b : Nat) : Prop := k < 440 ∧ ms.2 11 k = nI ln ∧ ms.2 10 k = nI b ∧ moff k + b + ln ≤ 400 ∧ ∀ i, i < ln → narrow .char (.int (ms.2 12 (moff k + b + i))) = .int (ms.2 12 (moff k + b + i))
def mto (ms : zMS) (o : Option Nat) : Prop := match o with
  | none => True
  | some k => ∃ ln b, mtxt ms k ln b
def msz (ms : zMS) (o : Option Nat) : Nat := match o with
  | none => 0
  | some k => (ms.2 11 k).toNatClampNeg
def mch (ms : zMS) (o : Option Nat) (m : Nat) : Int32 := match o with
  | none => 0
  | some k => if m < (ms.2 11 k).toNatClampNeg then ms.2 12 (moff k + (ms.2 10 k).toNatClampNeg + m) else 0
theorem tI_neg : tI none < 0 := by decide
theorem msz_lt {ms : zMS} {o : Option Nat} (h : mto ms o) : msz ms o ≤ 400 := by
  cases o with
  | none => exact Nat.zero_le _
  | some k =>
    obtain ⟨ln, b, h1, h2, h3, h4, h5⟩ := h
    show (ms.2 11 k).toNatClampNeg ≤ 400
    rw [h2, nI_clamp (by omega)]
    omega
theorem i_Mod_sizeOf_0 : zins 116 0 = some (.iload_n 1) := by decide +kernel
theorem i_Mod_sizeOf_1 : zins 116 1 = some (.ifCond .ge 7) := by decide +kernel
theorem i_Mod_sizeOf_4 : zins 116 4 = some (.iconst 0) := by decide +kernel
theorem i_Mod_sizeOf_5 : zins 116 5 = some (.goto 9) := by decide +kernel
theorem i_Mod_sizeOf_8 : zins 116 8 = some (.aload_n 0) := by decide +kernel
theorem i_Mod_sizeOf_9 : zins 116 9 = some (.getfield 41) := by decide +kernel
theorem i_Mod_sizeOf_12 : zins 116 12 = some (.iload_n 1) := by decide +kernel
theorem i_Mod_sizeOf_13 : zins 116 13 = some (.iaload) := by decide +kernel
theorem i_Mod_sizeOf_14 : zins 116 14 = some (.ireturn) := by decide +kernel
theorem e_Mod_sizeOf (X : zX) (d : Nat) (g : zH) (ms : zMS) (o : Option Nat) (ho : mto ms o) : zR X d 116 0 (zent 2 [.ref 129, .int (tI o)]) [] (mset g ms) (some (.int (nI (msz ms o))), mset g ms) := by
  refine zr_iload_n i_Mod_sizeOf_0 rfl ?_
  cases o with
  | none =>
    refine zr_if_ge 8 i_Mod_sizeOf_1 (by decide) (fun q => absurd q (by decide)) (fun _ => ?_)
    refine zr_iconst i_Mod_sizeOf_4 (v := 0) (by decide) ?_
    refine zr_goto 14 i_Mod_sizeOf_5 (by decide) ?_
    exact zR.retE i_Mod_sizeOf_14 rfl rfl
  | some k =>
    obtain ⟨ln, b, h1, h2, h3, h4, h5⟩ := ho
    refine zr_if_ge 8 i_Mod_sizeOf_1 (by decide) (fun _ => ?_) (fun q => absurd (nI_pos' (show k < 2 ^ 31 by omega)) q)
    refine zr_aload_n i_Mod_sizeOf_8 rfl ?_
    refine zr_getf i_Mod_sizeOf_9 rfl rfl rfl ?_
    refine zr_iload_n i_Mod_sizeOf_12 rfl ?_
    refine zn_iaload (k := k) i_Mod_sizeOf_13 rfl h1 (by decide) ?_
    refine zR.retE i_Mod_sizeOf_14 rfl ?_
    show (some (Value.int (nI (ms.2 11 k).toNatClampNeg)), mset g ms) = (some (Value.int (ms.2 11 k)), mset g ms)
    rw [h2, nI_clamp (by omega)]
theorem i_Mod_charOf_0 : zins 117 0 = some (.iload_n 2) := by decide +kernel
theorem i_Mod_charOf_1 : zins 117 1 = some (.ifCond .lt 12) := by decide +kernel
theorem i_Mod_charOf_4 : zins 117 4 = some (.iload_n 2) := by decide +kernel
theorem i_Mod_charOf_5 : zins 117 5 = some (.aload_n 0) := by decide +kernel
theorem i_Mod_charOf_6 : zins 117 6 = some (.iload_n 1) := by decide +kernel
theorem i_Mod_charOf_7 : zins 117 7 = some (.invokevirtual 145) := by decide +kernel
theorem i_Mod_charOf_10 : zins 117 10 = some (.if_icmp .lt 5) := by decide +kernel
theorem i_Mod_charOf_13 : zins 117 13 = some (.iconst 0) := by decide +kernel
theorem i_Mod_charOf_14 : zins 117 14 = some (.ireturn) := by decide +kernel
theorem i_Mod_charOf_15 : zins 117 15 = some (.aload_n 0) := by decide +kernel
theorem i_Mod_charOf_16 : zins 117 16 = some (.getfield 44) := by decide +kernel
theorem i_Mod_charOf_19 : zins 117 19 = some (.iload_n 1) := by decide +kernel
theorem i_Mod_charOf_20 : zins 117 20 = some (.sipush 220) := by decide +kernel
theorem i_Mod_charOf_23 : zins 117 23 = some (.if_icmp .ge 7) := by decide +kernel
theorem i_Mod_charOf_26 : zins 117 26 = some (.iconst 0) := by decide +kernel
theorem i_Mod_charOf_27 : zins 117 27 = some (.goto 6) := by decide +kernel
theorem i_Mod_charOf_30 : zins 117 30 = some (.sipush 200) := by decide +kernel
theorem i_Mod_charOf_33 : zins 117 33 = some (.aload_n 0) := by decide +kernel
theorem i_Mod_charOf_34 : zins 117 34 = some (.getfield 38) := by decide +kernel
theorem i_Mod_charOf_37 : zins 117 37 = some (.iload_n 1) := by decide +kernel
theorem i_Mod_charOf_38 : zins 117 38 = some (.iaload) := by decide +kernel
theorem i_Mod_charOf_39 : zins 117 39 = some (.iadd) := by decide +kernel
theorem i_Mod_charOf_40 : zins 117 40 = some (.iload_n 2) := by decide +kernel
theorem i_Mod_charOf_41 : zins 117 41 = some (.iadd) := by decide +kernel
theorem i_Mod_charOf_42 : zins 117 42 = some (.caload) := by decide +kernel
theorem i_Mod_charOf_43 : zins 117 43 = some (.ireturn) := by decide +kernel
theorem e_Mod_charOf (X : zX) (d : Nat) (g : zH) (ms : zMS) (o : Option Nat) (ho : mto ms o) (m : Nat) (hm : m < 2 ^ 30) : zR X (d + 1) 117 0 (zent 3 [.ref 129, .int (tI o), .int (nI m)]) [] (mset g ms) (some (.int (mch ms o m)), mset g ms) := by
  have hz := msz_lt ho
  refine zr_iload_n i_Mod_charOf_0 rfl ?_
  refine zr_if_lt 13 i_Mod_charOf_1 (by decide) (fun q => absurd q (nI_pos (by omega))) (fun _ => ?_)
  refine zr_iload_n i_Mod_charOf_4 rfl ?_
  refine zr_aload_n i_Mod_charOf_5 rfl ?_
  refine zr_iload_n i_Mod_charOf_6 rfl ?_
  refine zr_cv1 i_Mod_charOf_7 rfl (by decide) rfl (Nat.le_of_ble_eq_true rfl) (Nat.le_of_ble_eq_true rfl) (e_Mod_sizeOf X d g ms o ho) ?_
  refine zn_icmp_lt 15 i_Mod_charOf_10 (by decide) (by omega) (by omega) (fun c_10 => ?_) (fun c_10 => ?_)
  · cases o with
    | none => exact absurd c_10 (Nat.not_lt_zero m)
    | some k =>
      obtain ⟨ln, b, h1, h2, h3, h4, h5⟩ := ho
      have hs : (ms.2 11 k).toNatClampNeg = ln := by rw [h2, nI_clamp (by omega)]
      have hb : (ms.2 10 k).toNatClampNeg = b := by rw [h3, nI_clamp (by omega)]
      have hml : m < ln := by rw [← hs]; exact c_10
      have hmo : moff k ≤ 200 := by unfold moff; split <;> omega
      refine zr_aload_n i_Mod_charOf_15 rfl ?_
      refine zr_getf i_Mod_charOf_16 rfl rfl rfl ?_
      refine zr_iload_n i_Mod_charOf_19 rfl ?_
      refine zn_sipush 220 i_Mod_charOf_20 (by decide) ?_
      have key : ∀ q : Nat, q = moff k → zR X (d + 1) 117 33 (zent 3 [.ref 129, .int (nI k), .int (nI m)]) [.int (nI q), .ref 141] (mset g ms) (some (.int (mch ms (some k) m)), mset g ms) := by
        intro q hq
        refine zr_aload_n i_Mod_charOf_33 rfl ?_
        refine zr_getf i_Mod_charOf_34 rfl rfl rfl ?_
        refine zr_iload_n i_Mod_charOf_37 rfl ?_
        refine zn_iaload (k := k) i_Mod_charOf_38 rfl h1 (by decide) ?_
        refine zr_top (y := nI b) h3 ?_
        refine zn_iadd i_Mod_charOf_39 ?_
        refine zr_iload_n i_Mod_charOf_40 rfl ?_
        refine zn_iadd i_Mod_charOf_41 ?_
        refine zn_caload (k := q + b + m) i_Mod_charOf_42 rfl (by omega) (by decide) ?_
        subst hq
        refine zR.retE i_Mod_charOf_43 (zretC (h5 m hml)) ?_
        show (some (Value.int (if m < (ms.2 11 k).toNatClampNeg then ms.2 12 (moff k + (ms.2 10 k).toNatClampNeg + m) else 0)), mset g ms) = _
        rw [hs, hb, if_pos hml]
      refine zn_icmp_ge 30 i_Mod_charOf_23 (by decide) (by omega) (by omega) (fun c_23 => ?_) (fun c_23 => ?_)
      · refine zn_sipush 200 i_Mod_charOf_30 (by decide) ?_
        exact key 200 (by unfold moff; rw [if_neg (by omega)])
      · refine zn_iconst 0 i_Mod_charOf_26 (by decide) ?_
        refine zr_goto 33 i_Mod_charOf_27 (by decide) ?_
        exact key 0 (by unfold moff; rw [if_pos c_23])
  · refine zr_iconst i_Mod_charOf_13 (v := 0) (by decide) ?_
    refine zR.retE i_Mod_charOf_14 (zretC zch0) ?_
    cases o with
    | none => rfl
    | some k =>
      show (some (Value.int (if m < (ms.2 11 k).toNatClampNeg then ms.2 12 (moff k + (ms.2 10 k).toNatClampNeg + m) else 0)), mset g ms) = _
      rw [if_neg (show ¬ m < (ms.2 11 k).toNatClampNeg from Nat.not_lt.mpr c_10)]
def mis (ms : zMS) (o : Option Nat) (a b c : Int32) : Bool := decide (msz ms o = 3) && (decide (mch ms o 0 = a) && (decide (mch ms o 1 = b) && decide (mch ms o 2 = c)))
theorem i_Mod_is_0 : zins 120 0 = some (.aload_n 0) := by decide +kernel
theorem i_Mod_is_1 : zins 120 1 = some (.iload_n 1) := by decide +kernel
theorem i_Mod_is_2 : zins 120 2 = some (.invokevirtual 145) := by decide +kernel
theorem i_Mod_is_5 : zins 120 5 = some (.iconst 3) := by decide +kernel
theorem i_Mod_is_6 : zins 120 6 = some (.if_icmp .ne 38) := by decide +kernel
theorem i_Mod_is_9 : zins 120 9 = some (.aload_n 0) := by decide +kernel
theorem i_Mod_is_10 : zins 120 10 = some (.iload_n 1) := by decide +kernel
theorem i_Mod_is_11 : zins 120 11 = some (.iconst 0) := by decide +kernel
theorem i_Mod_is_12 : zins 120 12 = some (.invokevirtual 149) := by decide +kernel
theorem i_Mod_is_15 : zins 120 15 = some (.iload_n 2) := by decide +kernel
theorem i_Mod_is_16 : zins 120 16 = some (.if_icmp .ne 28) := by decide +kernel
theorem i_Mod_is_19 : zins 120 19 = some (.aload_n 0) := by decide +kernel
theorem i_Mod_is_20 : zins 120 20 = some (.iload_n 1) := by decide +kernel
theorem i_Mod_is_21 : zins 120 21 = some (.iconst 1) := by decide +kernel
theorem i_Mod_is_22 : zins 120 22 = some (.invokevirtual 149) := by decide +kernel
theorem i_Mod_is_25 : zins 120 25 = some (.iload_n 3) := by decide +kernel
theorem i_Mod_is_26 : zins 120 26 = some (.if_icmp .ne 18) := by decide +kernel
theorem i_Mod_is_29 : zins 120 29 = some (.aload_n 0) := by decide +kernel
theorem i_Mod_is_30 : zins 120 30 = some (.iload_n 1) := by decide +kernel
theorem i_Mod_is_31 : zins 120 31 = some (.iconst 2) := by decide +kernel
theorem i_Mod_is_32 : zins 120 32 = some (.invokevirtual 149) := by decide +kernel
theorem i_Mod_is_35 : zins 120 35 = some (.iload 4) := by decide +kernel
theorem i_Mod_is_37 : zins 120 37 = some (.if_icmp .ne 7) := by decide +kernel
theorem i_Mod_is_40 : zins 120 40 = some (.iconst 1) := by decide +kernel
theorem i_Mod_is_41 : zins 120 41 = some (.goto 4) := by decide +kernel
theorem i_Mod_is_44 : zins 120 44 = some (.iconst 0) := by decide +kernel
theorem i_Mod_is_45 : zins 120 45 = some (.ireturn) := by decide +kernel
theorem e_Mod_is (X : zX) (d : Nat) (g : zH) (ms : zMS) (o : Option Nat) (ho : mto ms o) (a b c : Int32) : zR X (d + 2) 120 0 (zent 5 [.ref 129, .int (tI o), .int a, .int b, .int c]) [] (mset g ms) (some (.int (zb (mis ms o a b c))), mset g ms) := by
  have hz := msz_lt ho
  refine zr_aload_n i_Mod_is_0 rfl ?_
  refine zr_iload_n i_Mod_is_1 rfl ?_
  refine zr_cv1 i_Mod_is_2 rfl (by decide) rfl (Nat.le_of_ble_eq_true rfl) (Nat.le_of_ble_eq_true rfl) (e_Mod_sizeOf X (d + 1) g ms o ho) ?_
  refine zn_iconst 3 i_Mod_is_5 (by decide) ?_
  refine zn_icmp_ne 44 i_Mod_is_6 (by decide) (by omega) (by omega) (fun c_6 => ?_) (fun c_6 => ?_)
  · skip
    refine zr_iconst i_Mod_is_44 (v := 0) (by decide) ?_
    exact zR.retE i_Mod_is_45 rfl (by simp [zb, mis, *])
  · skip
    refine zr_aload_n i_Mod_is_9 rfl ?_
    refine zr_iload_n i_Mod_is_10 rfl ?_
    refine zn_iconst 0 i_Mod_is_11 (by decide) ?_
    refine zr_cv2 i_Mod_is_12 rfl (by decide) rfl (Nat.le_of_ble_eq_true rfl) (Nat.le_of_ble_eq_true rfl) (e_Mod_charOf X d g ms o ho 0 (by decide)) ?_
    refine zr_iload_n i_Mod_is_15 rfl ?_
    refine zr_icmp_ne 44 i_Mod_is_16 (by decide) (fun c_16 => ?_) (fun c_16 => ?_)
    · skip
      refine zr_iconst i_Mod_is_44 (v := 0) (by decide) ?_
      exact zR.retE i_Mod_is_45 rfl (by simp [zb, mis, *])
    · skip
      refine zr_aload_n i_Mod_is_19 rfl ?_
      refine zr_iload_n i_Mod_is_20 rfl ?_
      refine zn_iconst 1 i_Mod_is_21 (by decide) ?_
      refine zr_cv2 i_Mod_is_22 rfl (by decide) rfl (Nat.le_of_ble_eq_true rfl) (Nat.le_of_ble_eq_true rfl) (e_Mod_charOf X d g ms o ho 1 (by decide)) ?_
      refine zr_iload_n i_Mod_is_25 rfl ?_
      refine zr_icmp_ne 44 i_Mod_is_26 (by decide) (fun c_26 => ?_) (fun c_26 => ?_)
      · skip
        refine zr_iconst i_Mod_is_44 (v := 0) (by decide) ?_
        exact zR.retE i_Mod_is_45 rfl (by simp [zb, mis, *])
      · skip
        refine zr_aload_n i_Mod_is_29 rfl ?_
        refine zr_iload_n i_Mod_is_30 rfl ?_
        refine zn_iconst 2 i_Mod_is_31 (by decide) ?_
        refine zr_cv2 i_Mod_is_32 rfl (by decide) rfl (Nat.le_of_ble_eq_true rfl) (Nat.le_of_ble_eq_true rfl) (e_Mod_charOf X d g ms o ho 2 (by decide)) ?_
        refine zr_iload i_Mod_is_35 rfl ?_
        refine zr_icmp_ne 44 i_Mod_is_37 (by decide) (fun c_37 => ?_) (fun c_37 => ?_)
        · skip
          refine zr_iconst i_Mod_is_44 (v := 0) (by decide) ?_
          exact zR.retE i_Mod_is_45 rfl (by simp [zb, mis, *])
        · skip
          refine zr_iconst i_Mod_is_40 (v := 1) (by decide) ?_
          refine zr_goto 45 i_Mod_is_41 (by decide) ?_
          exact zR.retE i_Mod_is_45 rfl (by simp [zb, mis, *])
def mnull (ms : zMS) (o : Option Nat) : Bool := decide (msz ms o = 2) && (decide (mch ms o 0 = 34) && decide (mch ms o 1 = 34))
theorem i_Mod_isNull_0 : zins 130 0 = some (.aload_n 0) := by decide +kernel
theorem i_Mod_isNull_1 : zins 130 1 = some (.iload_n 1) := by decide +kernel
theorem i_Mod_isNull_2 : zins 130 2 = some (.invokevirtual 145) := by decide +kernel
theorem i_Mod_isNull_5 : zins 130 5 = some (.iconst 2) := by decide +kernel
theorem i_Mod_isNull_6 : zins 130 6 = some (.if_icmp .ne 29) := by decide +kernel
theorem i_Mod_isNull_9 : zins 130 9 = some (.aload_n 0) := by decide +kernel
theorem i_Mod_isNull_10 : zins 130 10 = some (.iload_n 1) := by decide +kernel
theorem i_Mod_isNull_11 : zins 130 11 = some (.iconst 0) := by decide +kernel
theorem i_Mod_isNull_12 : zins 130 12 = some (.invokevirtual 149) := by decide +kernel
theorem i_Mod_isNull_15 : zins 130 15 = some (.bipush 34) := by decide +kernel
theorem i_Mod_isNull_17 : zins 130 17 = some (.if_icmp .ne 18) := by decide +kernel
theorem i_Mod_isNull_20 : zins 130 20 = some (.aload_n 0) := by decide +kernel
theorem i_Mod_isNull_21 : zins 130 21 = some (.iload_n 1) := by decide +kernel
theorem i_Mod_isNull_22 : zins 130 22 = some (.iconst 1) := by decide +kernel
theorem i_Mod_isNull_23 : zins 130 23 = some (.invokevirtual 149) := by decide +kernel
theorem i_Mod_isNull_26 : zins 130 26 = some (.bipush 34) := by decide +kernel
theorem i_Mod_isNull_28 : zins 130 28 = some (.if_icmp .ne 7) := by decide +kernel
theorem i_Mod_isNull_31 : zins 130 31 = some (.iconst 1) := by decide +kernel
theorem i_Mod_isNull_32 : zins 130 32 = some (.goto 4) := by decide +kernel
theorem i_Mod_isNull_35 : zins 130 35 = some (.iconst 0) := by decide +kernel
theorem i_Mod_isNull_36 : zins 130 36 = some (.ireturn) := by decide +kernel
theorem e_Mod_isNull (X : zX) (d : Nat) (g : zH) (ms : zMS) (o : Option Nat) (ho : mto ms o) : zR X (d + 2) 130 0 (zent 2 [.ref 129, .int (tI o)]) [] (mset g ms) (some (.int (zb (mnull ms o))), mset g ms) := by
  have hz := msz_lt ho
  refine zr_aload_n i_Mod_isNull_0 rfl ?_
  refine zr_iload_n i_Mod_isNull_1 rfl ?_
  refine zr_cv1 i_Mod_isNull_2 rfl (by decide) rfl (Nat.le_of_ble_eq_true rfl) (Nat.le_of_ble_eq_true rfl) (e_Mod_sizeOf X (d + 1) g ms o ho) ?_
  refine zn_iconst 2 i_Mod_isNull_5 (by decide) ?_
  refine zn_icmp_ne 35 i_Mod_isNull_6 (by decide) (by omega) (by omega) (fun c_6 => ?_) (fun c_6 => ?_)
  · skip
    refine zr_iconst i_Mod_isNull_35 (v := 0) (by decide) ?_
    exact zR.retE i_Mod_isNull_36 rfl (by simp [zb, mnull, *])
  · skip
    refine zr_aload_n i_Mod_isNull_9 rfl ?_
    refine zr_iload_n i_Mod_isNull_10 rfl ?_
    refine zn_iconst 0 i_Mod_isNull_11 (by decide) ?_
    refine zr_cv2 i_Mod_isNull_12 rfl (by decide) rfl (Nat.le_of_ble_eq_true rfl) (Nat.le_of_ble_eq_true rfl) (e_Mod_charOf X d g ms o ho 0 (by decide)) ?_
    refine zr_bipush i_Mod_isNull_15 (v := 34) (by decide) ?_
    refine zr_icmp_ne 35 i_Mod_isNull_17 (by decide) (fun c_17 => ?_) (fun c_17 => ?_)
    · skip
      refine zr_iconst i_Mod_isNull_35 (v := 0) (by decide) ?_
      exact zR.retE i_Mod_isNull_36 rfl (by simp [zb, mnull, *])
    · skip
      refine zr_aload_n i_Mod_isNull_20 rfl ?_
      refine zr_iload_n i_Mod_isNull_21 rfl ?_
      refine zn_iconst 1 i_Mod_isNull_22 (by decide) ?_
      refine zr_cv2 i_Mod_isNull_23 rfl (by decide) rfl (Nat.le_of_ble_eq_true rfl) (Nat.le_of_ble_eq_true rfl) (e_Mod_charOf X d g ms o ho 1 (by decide)) ?_
      refine zr_bipush i_Mod_isNull_26 (v := 34) (by decide) ?_
      refine zr_icmp_ne 35 i_Mod_isNull_28 (by decide) (fun c_28 => ?_) (fun c_28 => ?_)
      · skip
        refine zr_iconst i_Mod_isNull_35 (v := 0) (by decide) ?_
        exact zR.retE i_Mod_isNull_36 rfl (by simp [zb, mnull, *])
      · skip
        refine zr_iconst i_Mod_isNull_31 (v := 1) (by decide) ?_
        refine zr_goto 36 i_Mod_isNull_32 (by decide) ?_
        exact zR.retE i_Mod_isNull_36 rfl (by simp [zb, mnull, *])
theorem i_Mod_find_0 : zins 115 0 = some (.sipush 220) := by decide +kernel
theorem i_Mod_find_3 : zins 115 3 = some (.iload_n 1) := by decide +kernel
theorem i_Mod_find_4 : zins 115 4 = some (.imul) := by decide +kernel
theorem i_Mod_find_5 : zins 115 5 = some (.istore 6) := by decide +kernel
theorem i_Mod_find_7 : zins 115 7 = some (.iload 6) := by decide +kernel
theorem i_Mod_find_9 : zins 115 9 = some (.sipush 220) := by decide +kernel
theorem i_Mod_find_12 : zins 115 12 = some (.iload_n 1) := by decide +kernel
theorem i_Mod_find_13 : zins 115 13 = some (.imul) := by decide +kernel
theorem i_Mod_find_14 : zins 115 14 = some (.aload_n 0) := by decide +kernel
theorem i_Mod_find_15 : zins 115 15 = some (.getfield 17) := by decide +kernel
theorem i_Mod_find_18 : zins 115 18 = some (.iload_n 1) := by decide +kernel
theorem i_Mod_find_19 : zins 115 19 = some (.iaload) := by decide +kernel
theorem i_Mod_find_20 : zins 115 20 = some (.iadd) := by decide +kernel
theorem i_Mod_find_21 : zins 115 21 = some (.if_icmp .ge 69) := by decide +kernel
theorem i_Mod_find_24 : zins 115 24 = some (.aload_n 0) := by decide +kernel
theorem i_Mod_find_25 : zins 115 25 = some (.getfield 23) := by decide +kernel
theorem i_Mod_find_28 : zins 115 28 = some (.iload 6) := by decide +kernel
theorem i_Mod_find_30 : zins 115 30 = some (.iaload) := by decide +kernel
theorem i_Mod_find_31 : zins 115 31 = some (.iload_n 2) := by decide +kernel
theorem i_Mod_find_32 : zins 115 32 = some (.if_icmp .ne 52) := by decide +kernel
theorem i_Mod_find_35 : zins 115 35 = some (.aload_n 0) := by decide +kernel
theorem i_Mod_find_36 : zins 115 36 = some (.getfield 26) := by decide +kernel
theorem i_Mod_find_39 : zins 115 39 = some (.iload 6) := by decide +kernel
theorem i_Mod_find_41 : zins 115 41 = some (.iaload) := by decide +kernel
theorem i_Mod_find_42 : zins 115 42 = some (.iload_n 3) := by decide +kernel
theorem i_Mod_find_43 : zins 115 43 = some (.if_icmp .ne 41) := by decide +kernel
theorem i_Mod_find_46 : zins 115 46 = some (.aload_n 0) := by decide +kernel
theorem i_Mod_find_47 : zins 115 47 = some (.getfield 29) := by decide +kernel
theorem i_Mod_find_50 : zins 115 50 = some (.iload 6) := by decide +kernel
theorem i_Mod_find_52 : zins 115 52 = some (.iaload) := by decide +kernel
theorem i_Mod_find_53 : zins 115 53 = some (.iload 4) := by decide +kernel
theorem i_Mod_find_55 : zins 115 55 = some (.if_icmp .ne 29) := by decide +kernel
theorem i_Mod_find_58 : zins 115 58 = some (.aload_n 0) := by decide +kernel
theorem i_Mod_find_59 : zins 115 59 = some (.getfield 32) := by decide +kernel
theorem i_Mod_find_62 : zins 115 62 = some (.iload 6) := by decide +kernel
theorem i_Mod_find_64 : zins 115 64 = some (.iaload) := by decide +kernel
theorem i_Mod_find_65 : zins 115 65 = some (.iload 5) := by decide +kernel
theorem i_Mod_find_67 : zins 115 67 = some (.if_icmp .ne 17) := by decide +kernel
theorem i_Mod_find_70 : zins 115 70 = some (.aload_n 0) := by decide +kernel
theorem i_Mod_find_71 : zins 115 71 = some (.getfield 35) := by decide +kernel
theorem i_Mod_find_74 : zins 115 74 = some (.iload 6) := by decide +kernel
theorem i_Mod_find_76 : zins 115 76 = some (.iaload) := by decide +kernel
theorem i_Mod_find_77 : zins 115 77 = some (.iconst 1) := by decide +kernel
theorem i_Mod_find_78 : zins 115 78 = some (.if_icmp .ne 6) := by decide +kernel
theorem i_Mod_find_81 : zins 115 81 = some (.iload 6) := by decide +kernel
theorem i_Mod_find_83 : zins 115 83 = some (.ireturn) := by decide +kernel
theorem i_Mod_find_84 : zins 115 84 = some (.iinc 6 1) := by decide +kernel
theorem i_Mod_find_87 : zins 115 87 = some (.goto (-80)) := by decide +kernel
theorem i_Mod_find_90 : zins 115 90 = some (.iconst (-1)) := by decide +kernel
theorem i_Mod_find_91 : zins 115 91 = some (.ireturn) := by decide +kernel
/-- the first place from i on, among k, of which P says so -/
def zfst (P : Nat → Bool) (i k : Nat) : Option Nat := match k with
  | 0 => none
  | k + 1 => if P i = true then some i else zfst P (i + 1) k
def mat (ms : zMS) (s f r c : Int32) (t : Nat) : Bool := decide (ms.2 5 t = s) && (decide (ms.2 6 t = f) && (decide (ms.2 7 t = r) && (decide (ms.2 8 t = c) && decide (ms.2 9 t = 1))))
def mfind (ms : zMS) (g : Nat) (s f r c : Int32) : Option Nat := zfst (mat ms s f r c) (220 * g) ((ms.2 3 g).toNatClampNeg)
theorem l_Mod_find (X : zX) (d : Nat) (g : zH) (ms : zMS) (q cnt : Nat) (s f r c : Int32) (hq : q < 2) (hc : ms.2 3 q = nI cnt) (hcl : cnt ≤ 220) : ∀ (k i : Nat), i + k = 220 * q + cnt → zR X d 115 7 [some (.ref 129), some (.int (nI q)), some (.int s), some (.int f), some (.int r), some (.int c), some (.int (nI i))] [] (mset g ms) (some (.int (tI (zfst (mat ms s f r c) i k))), mset g ms) := by
  intro k
  induction k with
  | zero =>
    intro i hik
    refine zr_iload i_Mod_find_7 rfl ?_
    refine zn_sipush 220 i_Mod_find_9 (by decide) ?_
    refine zr_iload_n i_Mod_find_12 rfl ?_
    refine zn_imul i_Mod_find_13 ?_
    refine zr_aload_n i_Mod_find_14 rfl ?_
    refine zr_getf i_Mod_find_15 rfl rfl rfl ?_
    refine zr_iload_n i_Mod_find_18 rfl ?_
    refine zn_iaload (k := q) i_Mod_find_19 rfl (by omega) (by decide) ?_
    refine zr_top (y := nI cnt) hc ?_
    refine zn_iadd i_Mod_find_20 ?_
    refine zn_icmp_ge 90 i_Mod_find_21 (by decide) (by omega) (by omega) (fun c_21 => ?_) (fun c_21 => absurd c_21 (by omega))
    refine zr_iconst i_Mod_find_90 (v := (-1)) (by decide) ?_
    exact zR.retE i_Mod_find_91 rfl rfl
  | succ k ih =>
    intro i hik
    have hi4 : i < 440 := by omega
    refine zr_iload i_Mod_find_7 rfl ?_
    refine zn_sipush 220 i_Mod_find_9 (by decide) ?_
    refine zr_iload_n i_Mod_find_12 rfl ?_
    refine zn_imul i_Mod_find_13 ?_
    refine zr_aload_n i_Mod_find_14 rfl ?_
    refine zr_getf i_Mod_find_15 rfl rfl rfl ?_
    refine zr_iload_n i_Mod_find_18 rfl ?_
    refine zn_iaload (k := q) i_Mod_find_19 rfl (by omega) (by decide) ?_
    refine zr_top (y := nI cnt) hc ?_
    refine zn_iadd i_Mod_find_20 ?_
    refine zn_icmp_ge 90 i_Mod_find_21 (by decide) (by omega) (by omega) (fun c_21 => absurd c_21 (by omega)) (fun c_21 => ?_)
    refine zr_aload_n i_Mod_find_24 rfl ?_
    refine zr_getf i_Mod_find_25 rfl rfl rfl ?_
    refine zr_iload i_Mod_find_28 rfl ?_
    refine zn_iaload i_Mod_find_30 rfl hi4 (by decide) ?_
    refine zr_iload_n i_Mod_find_31 rfl ?_
    refine zr_icmp_ne 84 i_Mod_find_32 (by decide) (fun c_32 => ?_) (fun c_32 => ?_)
    · skip
      refine zn_iinc i_Mod_find_84 rfl rfl ?_
      refine zr_goto 7 i_Mod_find_87 (by decide) ?_
      (rw [zfst, if_neg (by simp [mat, *])]; exact ih (i + 1) (by omega))
    · skip
      refine zr_aload_n i_Mod_find_35 rfl ?_
      refine zr_getf i_Mod_find_36 rfl rfl rfl ?_
      refine zr_iload i_Mod_find_39 rfl ?_
      refine zn_iaload i_Mod_find_41 rfl hi4 (by decide) ?_
      refine zr_iload_n i_Mod_find_42 rfl ?_
      refine zr_icmp_ne 84 i_Mod_find_43 (by decide) (fun c_43 => ?_) (fun c_43 => ?_)
      · skip
        refine zn_iinc i_Mod_find_84 rfl rfl ?_
        refine zr_goto 7 i_Mod_find_87 (by decide) ?_
        (rw [zfst, if_neg (by simp [mat, *])]; exact ih (i + 1) (by omega))
      · skip
        refine zr_aload_n i_Mod_find_46 rfl ?_
        refine zr_getf i_Mod_find_47 rfl rfl rfl ?_
        refine zr_iload i_Mod_find_50 rfl ?_
        refine zn_iaload i_Mod_find_52 rfl hi4 (by decide) ?_
        refine zr_iload i_Mod_find_53 rfl ?_
        refine zr_icmp_ne 84 i_Mod_find_55 (by decide) (fun c_55 => ?_) (fun c_55 => ?_)
        · skip
          refine zn_iinc i_Mod_find_84 rfl rfl ?_
          refine zr_goto 7 i_Mod_find_87 (by decide) ?_
          (rw [zfst, if_neg (by simp [mat, *])]; exact ih (i + 1) (by omega))
        · skip
          refine zr_aload_n i_Mod_find_58 rfl ?_
          refine zr_getf i_Mod_find_59 rfl rfl rfl ?_
          refine zr_iload i_Mod_find_62 rfl ?_
          refine zn_iaload i_Mod_find_64 rfl hi4 (by decide) ?_
          refine zr_iload i_Mod_find_65 rfl ?_
          refine zr_icmp_ne 84 i_Mod_find_67 (by decide) (fun c_67 => ?_) (fun c_67 => ?_)
          · skip
            refine zn_iinc i_Mod_find_84 rfl rfl ?_
            refine zr_goto 7 i_Mod_find_87 (by decide) ?_
            (rw [zfst, if_neg (by simp [mat, *])]; exact ih (i + 1) (by omega))
          · skip
            refine zr_aload_n i_Mod_find_70 rfl ?_
            refine zr_getf i_Mod_find_71 rfl rfl rfl ?_
            refine zr_iload i_Mod_find_74 rfl ?_
            refine zn_iaload i_Mod_find_76 rfl hi4 (by decide) ?_
            refine zr_iconst i_Mod_find_77 (v := 1) (by decide) ?_
            refine zr_icmp_ne 84 i_Mod_find_78 (by decide) (fun c_78 => ?_) (fun c_78 => ?_)
            · skip
              refine zn_iinc i_Mod_find_84 rfl rfl ?_
              refine zr_goto 7 i_Mod_find_87 (by decide) ?_
              (rw [zfst, if_neg (by simp [mat, *])]; exact ih (i + 1) (by omega))
            · skip
              refine zr_iload i_Mod_find_81 rfl ?_
              exact zR.retE i_Mod_find_83 rfl (by rw [zfst, if_pos (by simp [mat, *])]; rfl)
theorem e_Mod_find (X : zX) (d : Nat) (g : zH) (ms : zMS) (q cnt : Nat) (s f r c : Int32) (hq : q < 2) (hc : ms.2 3 q = nI cnt) (hcl : cnt ≤ 220) : zR X d 115 0 (zent 7 [.ref 129, .int (nI q), .int s, .int f, .int r, .int c]) [] (mset g ms) (some (.int (tI (mfind ms q s f r c))), mset g ms) := by
  refine zn_sipush 220 i_Mod_find_0 (by decide) ?_
  refine zr_iload_n i_Mod_find_3 rfl ?_
  refine zn_imul i_Mod_find_4 ?_
  refine zr_istore i_Mod_find_5 rfl ?_
  unfold mfind
  rw [hc, nI_clamp (by omega)]
  exact l_Mod_find X d g ms q cnt s f r c hq hc hcl cnt (220 * q) rfl
end
section
/-! THE REFERENCE: what a message says -/
theorem zfst_some {P : Nat → Bool} : ∀ {k i t : Nat}, zfst P i k = some t → i ≤ t ∧ t < i + k ∧ P t = true := by
  intro k
  induction k with
  | zero => intro i t h; cases h
  | succ k ih =>
    intro i t h
    rw [zfst] at h
    split at h
    · rename_i hp
      cases h
      exact ⟨Nat.le_refl _, by omega, hp⟩
    · obtain ⟨a, b, c⟩ := ih h
      exact ⟨by omega, by omega, c⟩
/-- the table of texts q is as it should be: cnt texts -/
def mTV (ms : zMS) (q cnt : Nat) : Prop := ms.2 3 q = nI cnt ∧ cnt ≤ 220 ∧ ∀ t, 220 * q ≤ t → t < 220 * q + cnt → ∃ ln b, mtxt ms t ln b
theorem mto_find {ms : zMS} {q cnt : Nat} (h : mTV ms q cnt) (s f r c : Int32) : mto ms (mfind ms q s f r c) := by
  cases e : mfind ms q s f r c with
  | none => trivial
  | some t =>
    unfold mfind at e
    rw [h.1, nI_clamp (by have := h.2.1; omega)] at e
    obtain ⟨a, b, -⟩ := zfst_some e
    exact h.2.2 t a b
theorem i_Mod_segment_0 : zins 122 0 = some (.iload 4) := by decide +kernel
theorem i_Mod_segment_2 : zins 122 2 = some (.istore 5) := by decide +kernel
theorem i_Mod_segment_4 : zins 122 4 = some (.iload 5) := by decide +kernel
theorem i_Mod_segment_6 : zins 122 6 = some (.aload_n 0) := by decide +kernel
theorem i_Mod_segment_7 : zins 122 7 = some (.getfield 13) := by decide +kernel
theorem i_Mod_segment_10 : zins 122 10 = some (.iconst 0) := by decide +kernel
theorem i_Mod_segment_11 : zins 122 11 = some (.iaload) := by decide +kernel
theorem i_Mod_segment_12 : zins 122 12 = some (.if_icmp .gt 57) := by decide +kernel
theorem i_Mod_segment_15 : zins 122 15 = some (.aload_n 0) := by decide +kernel
theorem i_Mod_segment_16 : zins 122 16 = some (.getfield 47) := by decide +kernel
theorem i_Mod_segment_19 : zins 122 19 = some (.iconst 3) := by decide +kernel
theorem i_Mod_segment_20 : zins 122 20 = some (.iload 5) := by decide +kernel
theorem i_Mod_segment_22 : zins 122 22 = some (.imul) := by decide +kernel
theorem i_Mod_segment_23 : zins 122 23 = some (.iconst 3) := by decide +kernel
theorem i_Mod_segment_24 : zins 122 24 = some (.isub) := by decide +kernel
theorem i_Mod_segment_25 : zins 122 25 = some (.caload) := by decide +kernel
theorem i_Mod_segment_26 : zins 122 26 = some (.iload_n 1) := by decide +kernel
theorem i_Mod_segment_27 : zins 122 27 = some (.if_icmp .ne 36) := by decide +kernel
theorem i_Mod_segment_30 : zins 122 30 = some (.aload_n 0) := by decide +kernel
theorem i_Mod_segment_31 : zins 122 31 = some (.getfield 47) := by decide +kernel
theorem i_Mod_segment_34 : zins 122 34 = some (.iconst 3) := by decide +kernel
theorem i_Mod_segment_35 : zins 122 35 = some (.iload 5) := by decide +kernel
theorem i_Mod_segment_37 : zins 122 37 = some (.imul) := by decide +kernel
theorem i_Mod_segment_38 : zins 122 38 = some (.iconst 2) := by decide +kernel
theorem i_Mod_segment_39 : zins 122 39 = some (.isub) := by decide +kernel
theorem i_Mod_segment_40 : zins 122 40 = some (.caload) := by decide +kernel
theorem i_Mod_segment_41 : zins 122 41 = some (.iload_n 2) := by decide +kernel
theorem i_Mod_segment_42 : zins 122 42 = some (.if_icmp .ne 21) := by decide +kernel
theorem i_Mod_segment_45 : zins 122 45 = some (.aload_n 0) := by decide +kernel
theorem i_Mod_segment_46 : zins 122 46 = some (.getfield 47) := by decide +kernel
theorem i_Mod_segment_49 : zins 122 49 = some (.iconst 3) := by decide +kernel
theorem i_Mod_segment_50 : zins 122 50 = some (.iload 5) := by decide +kernel
theorem i_Mod_segment_52 : zins 122 52 = some (.imul) := by decide +kernel
theorem i_Mod_segment_53 : zins 122 53 = some (.iconst 1) := by decide +kernel
theorem i_Mod_segment_54 : zins 122 54 = some (.isub) := by decide +kernel
theorem i_Mod_segment_55 : zins 122 55 = some (.caload) := by decide +kernel
theorem i_Mod_segment_56 : zins 122 56 = some (.iload_n 3) := by decide +kernel
theorem i_Mod_segment_57 : zins 122 57 = some (.if_icmp .ne 6) := by decide +kernel
theorem i_Mod_segment_60 : zins 122 60 = some (.iload 5) := by decide +kernel
theorem i_Mod_segment_62 : zins 122 62 = some (.ireturn) := by decide +kernel
theorem i_Mod_segment_63 : zins 122 63 = some (.iinc 5 1) := by decide +kernel
theorem i_Mod_segment_66 : zins 122 66 = some (.goto (-62)) := by decide +kernel
theorem i_Mod_segment_69 : zins 122 69 = some (.iconst 0) := by decide +kernel
theorem i_Mod_segment_70 : zins 122 70 = some (.ireturn) := by decide +kernel
def mnm (ms : zMS) (a b c : Int32) (s : Nat) : Bool := decide (ms.2 13 (3 * s - 3) = a) && (decide (ms.2 13 (3 * s - 2) = b) && decide (ms.2 13 (3 * s - 1) = c))
def sN (o : Option Nat) : Nat := match o with
  | some k => k
  | none => 0
theorem l_Mod_segment (X : zX) (d : Nat) (g : zH) (ms : zMS) (sg : Nat) (a b c x4 : Int32) (hs : ms.2 2 0 = nI sg) (hsl : sg ≤ 200) : ∀ (k i : Nat), 1 ≤ i → i + k = sg + 1 → zR X d 122 4 [some (.ref 129), some (.int a), some (.int b), some (.int c), some (.int x4), some (.int (nI i))] [] (mset g ms) (some (.int (nI (sN (zfst (mnm ms a b c) i k)))), mset g ms) := by
  intro k
  induction k with
  | zero =>
    intro i h1 hik
    refine zr_iload i_Mod_segment_4 rfl ?_
    refine zr_aload_n i_Mod_segment_6 rfl ?_
    refine zr_getf i_Mod_segment_7 rfl rfl rfl ?_
    refine zn_iconst 0 i_Mod_segment_10 (by decide) ?_
    refine zn_iaload (k := 0) i_Mod_segment_11 rfl (by decide) (by decide) ?_
    refine zr_top (y := nI sg) hs ?_
    refine zn_icmp_gt 69 i_Mod_segment_12 (by decide) (by omega) (by omega) (fun c_12 => ?_) (fun c_12 => absurd c_12 (by omega))
    refine zn_iconst 0 i_Mod_segment_69 (by decide) ?_
    exact zR.retE i_Mod_segment_70 rfl rfl
  | succ k ih =>
    intro i h1 hik
    refine zr_iload i_Mod_segment_4 rfl ?_
    refine zr_aload_n i_Mod_segment_6 rfl ?_
    refine zr_getf i_Mod_segment_7 rfl rfl rfl ?_
    refine zn_iconst 0 i_Mod_segment_10 (by decide) ?_
    refine zn_iaload (k := 0) i_Mod_segment_11 rfl (by decide) (by decide) ?_
    refine zr_top (y := nI sg) hs ?_
    refine zn_icmp_gt 69 i_Mod_segment_12 (by decide) (by omega) (by omega) (fun c_12 => absurd c_12 (by omega)) (fun c_12 => ?_)
    refine zr_aload_n i_Mod_segment_15 rfl ?_
    refine zr_getf i_Mod_segment_16 rfl rfl rfl ?_
    refine zn_iconst 3 i_Mod_segment_19 (by decide) ?_
    refine zr_iload i_Mod_segment_20 rfl ?_
    refine zn_imul i_Mod_segment_22 ?_
    refine zn_iconst 3 i_Mod_segment_23 (by decide) ?_
    refine zn_isub i_Mod_segment_24 (by omega) ?_
    refine zn_caload i_Mod_segment_25 rfl (by omega) (by decide) ?_
    refine zr_iload_n i_Mod_segment_26 rfl ?_
    refine zr_icmp_ne 63 i_Mod_segment_27 (by decide) (fun c_27 => ?_) (fun c_27 => ?_)
    · skip
      refine zn_iinc i_Mod_segment_63 rfl rfl ?_
      refine zr_goto 4 i_Mod_segment_66 (by decide) ?_
      (rw [zfst, if_neg (by simp [mnm, *])]; exact ih (i + 1) (by omega) (by omega))
    · skip
      refine zr_aload_n i_Mod_segment_30 rfl ?_
      refine zr_getf i_Mod_segment_31 rfl rfl rfl ?_
      refine zn_iconst 3 i_Mod_segment_34 (by decide) ?_
      refine zr_iload i_Mod_segment_35 rfl ?_
      refine zn_imul i_Mod_segment_37 ?_
      refine zn_iconst 2 i_Mod_segment_38 (by decide) ?_
      refine zn_isub i_Mod_segment_39 (by omega) ?_
      refine zn_caload i_Mod_segment_40 rfl (by omega) (by decide) ?_
      refine zr_iload_n i_Mod_segment_41 rfl ?_
      refine zr_icmp_ne 63 i_Mod_segment_42 (by decide) (fun c_42 => ?_) (fun c_42 => ?_)
      · skip
        refine zn_iinc i_Mod_segment_63 rfl rfl ?_
        refine zr_goto 4 i_Mod_segment_66 (by decide) ?_
        (rw [zfst, if_neg (by simp [mnm, *])]; exact ih (i + 1) (by omega) (by omega))
      · skip
        refine zr_aload_n i_Mod_segment_45 rfl ?_
        refine zr_getf i_Mod_segment_46 rfl rfl rfl ?_
        refine zn_iconst 3 i_Mod_segment_49 (by decide) ?_
        refine zr_iload i_Mod_segment_50 rfl ?_
        refine zn_imul i_Mod_segment_52 ?_
        refine zn_iconst 1 i_Mod_segment_53 (by decide) ?_
        refine zn_isub i_Mod_segment_54 (by omega) ?_
        refine zn_caload i_Mod_segment_55 rfl (by omega) (by decide) ?_
        refine zr_iload_n i_Mod_segment_56 rfl ?_
        refine zr_icmp_ne 63 i_Mod_segment_57 (by decide) (fun c_57 => ?_) (fun c_57 => ?_)
        · skip
          refine zn_iinc i_Mod_segment_63 rfl rfl ?_
          refine zr_goto 4 i_Mod_segment_66 (by decide) ?_
          (rw [zfst, if_neg (by simp [mnm, *])]; exact ih (i + 1) (by omega) (by omega))
        · skip
          refine zr_iload i_Mod_segment_60 rfl ?_
          exact zR.retE i_Mod_segment_62 rfl (by rw [zfst, if_pos (by simp [mnm, *])]; rfl)
def mseg (ms : zMS) (a b c : Int32) (i : Nat) : Nat := sN (zfst (mnm ms a b c) i ((ms.2 2 0).toNatClampNeg + 1 - i))
theorem e_Mod_segment (X : zX) (d : Nat) (g : zH) (ms : zMS) (sg : Nat) (a b c : Int32) (i : Nat) (hs : ms.2 2 0 = nI sg) (hsl : sg ≤ 200) (hi1 : 1 ≤ i) (hi2 : i ≤ sg + 1) : zR X d 122 0 (zent 6 [.ref 129, .int a, .int b, .int c, .int (nI i)]) [] (mset g ms) (some (.int (nI (mseg ms a b c i))), mset g ms) := by
  refine zr_iload i_Mod_segment_0 rfl ?_
  refine zr_istore i_Mod_segment_2 rfl ?_
  unfold mseg
  rw [hs, nI_clamp (by omega)]
  exact l_Mod_segment X d g ms sg a b c (nI i) hs hsl (sg + 1 - i) i hi1 (by omega)
theorem i_Mod_number_0 : zins 124 0 = some (.iconst 0) := by decide +kernel
theorem i_Mod_number_1 : zins 124 1 = some (.istore_n 3) := by decide +kernel
theorem i_Mod_number_2 : zins 124 2 = some (.aload_n 0) := by decide +kernel
theorem i_Mod_number_3 : zins 124 3 = some (.iload_n 1) := by decide +kernel
theorem i_Mod_number_4 : zins 124 4 = some (.invokevirtual 145) := by decide +kernel
theorem i_Mod_number_7 : zins 124 7 = some (.iconst 1) := by decide +kernel
theorem i_Mod_number_8 : zins 124 8 = some (.if_icmp .lt 16) := by decide +kernel
theorem i_Mod_number_11 : zins 124 11 = some (.aload_n 0) := by decide +kernel
theorem i_Mod_number_12 : zins 124 12 = some (.iload_n 1) := by decide +kernel
theorem i_Mod_number_13 : zins 124 13 = some (.invokevirtual 145) := by decide +kernel
theorem i_Mod_number_16 : zins 124 16 = some (.iload_n 2) := by decide +kernel
theorem i_Mod_number_17 : zins 124 17 = some (.if_icmp .gt 7) := by decide +kernel
theorem i_Mod_number_20 : zins 124 20 = some (.iconst 1) := by decide +kernel
theorem i_Mod_number_21 : zins 124 21 = some (.goto 4) := by decide +kernel
theorem i_Mod_number_24 : zins 124 24 = some (.iconst 0) := by decide +kernel
theorem i_Mod_number_25 : zins 124 25 = some (.istore 4) := by decide +kernel
theorem i_Mod_number_27 : zins 124 27 = some (.iconst 0) := by decide +kernel
theorem i_Mod_number_28 : zins 124 28 = some (.istore 5) := by decide +kernel
theorem i_Mod_number_30 : zins 124 30 = some (.iload 5) := by decide +kernel
theorem i_Mod_number_32 : zins 124 32 = some (.aload_n 0) := by decide +kernel
theorem i_Mod_number_33 : zins 124 33 = some (.iload_n 1) := by decide +kernel
theorem i_Mod_number_34 : zins 124 34 = some (.invokevirtual 145) := by decide +kernel
theorem i_Mod_number_37 : zins 124 37 = some (.if_icmp .ge 42) := by decide +kernel
theorem i_Mod_number_40 : zins 124 40 = some (.iload 4) := by decide +kernel
theorem i_Mod_number_42 : zins 124 42 = some (.ifCond .eq 37) := by decide +kernel
theorem i_Mod_number_45 : zins 124 45 = some (.aload_n 0) := by decide +kernel
theorem i_Mod_number_46 : zins 124 46 = some (.iload_n 1) := by decide +kernel
theorem i_Mod_number_47 : zins 124 47 = some (.iload 5) := by decide +kernel
theorem i_Mod_number_49 : zins 124 49 = some (.invokevirtual 149) := by decide +kernel
theorem i_Mod_number_52 : zins 124 52 = some (.invokestatic 109) := by decide +kernel
theorem i_Mod_number_55 : zins 124 55 = some (.istore 4) := by decide +kernel
theorem i_Mod_number_57 : zins 124 57 = some (.bipush 10) := by decide +kernel
theorem i_Mod_number_59 : zins 124 59 = some (.iload_n 3) := by decide +kernel
theorem i_Mod_number_60 : zins 124 60 = some (.imul) := by decide +kernel
theorem i_Mod_number_61 : zins 124 61 = some (.aload_n 0) := by decide +kernel
theorem i_Mod_number_62 : zins 124 62 = some (.iload_n 1) := by decide +kernel
theorem i_Mod_number_63 : zins 124 63 = some (.iload 5) := by decide +kernel
theorem i_Mod_number_65 : zins 124 65 = some (.invokevirtual 149) := by decide +kernel
theorem i_Mod_number_68 : zins 124 68 = some (.iadd) := by decide +kernel
theorem i_Mod_number_69 : zins 124 69 = some (.bipush 48) := by decide +kernel
theorem i_Mod_number_71 : zins 124 71 = some (.isub) := by decide +kernel
theorem i_Mod_number_72 : zins 124 72 = some (.istore_n 3) := by decide +kernel
theorem i_Mod_number_73 : zins 124 73 = some (.iinc 5 1) := by decide +kernel
theorem i_Mod_number_76 : zins 124 76 = some (.goto (-46)) := by decide +kernel
theorem i_Mod_number_79 : zins 124 79 = some (.iload 4) := by decide +kernel
theorem i_Mod_number_81 : zins 124 81 = some (.ifCond .eq 7) := by decide +kernel
theorem i_Mod_number_84 : zins 124 84 = some (.iload_n 3) := by decide +kernel
theorem i_Mod_number_85 : zins 124 85 = some (.goto 4) := by decide +kernel
theorem i_Mod_number_88 : zins 124 88 = some (.iconst (-1)) := by decide +kernel
theorem i_Mod_number_89 : zins 124 89 = some (.ireturn) := by decide +kernel
def mnumL (ms : zMS) (o : Option Nat) (i k : Nat) (v : Int32) : Int32 := match k with
  | 0 => v
  | k + 1 => if zdig (mch ms o i) = true then mnumL ms o (i + 1) k (10 * v + mch ms o i - 48) else -1
def mnum (ms : zMS) (o : Option Nat) (most : Nat) : Int32 := if 1 ≤ msz ms o ∧ msz ms o ≤ most then mnumL ms o 0 (msz ms o) 0 else -1
theorem x_Mod_number (X : zX) (d : Nat) (g : zH) (ms : zMS) (o : Option Nat) (ho : mto ms o) (most : Nat) (v i : Int32) : zR X (d + 2) 124 79 [some (.ref 129), some (.int (tI o)), some (.int (nI most)), some (.int v), some (.int 0), some (.int i)] [] (mset g ms) (some (.int (-1)), mset g ms) := by
  refine zr_iload i_Mod_number_79 rfl ?_
  refine zr_if_eq 88 i_Mod_number_81 (by decide) (fun _ => ?_) (fun q => absurd rfl q)
  refine zr_iconst i_Mod_number_88 (v := (-1)) (by decide) ?_
  exact zR.retE i_Mod_number_89 rfl rfl
theorem y_Mod_number (X : zX) (d : Nat) (g : zH) (ms : zMS) (o : Option Nat) (ho : mto ms o) (most i : Nat) (hi : i < 2 ^ 30) (v : Int32) : zR X (d + 2) 124 30 [some (.ref 129), some (.int (tI o)), some (.int (nI most)), some (.int v), some (.int 0), some (.int (nI i))] [] (mset g ms) (some (.int (-1)), mset g ms) := by
  have hz := msz_lt ho
  refine zr_iload i_Mod_number_30 rfl ?_
  refine zr_aload_n i_Mod_number_32 rfl ?_
  refine zr_iload_n i_Mod_number_33 rfl ?_
  refine zr_cv1 i_Mod_number_34 rfl (by decide) rfl (Nat.le_of_ble_eq_true rfl) (Nat.le_of_ble_eq_true rfl) (e_Mod_sizeOf X (d + 1) g ms o ho) ?_
  refine zn_icmp_ge 79 i_Mod_number_37 (by decide) (by omega) (by omega) (fun _ => ?_) (fun _ => ?_)
  · exact x_Mod_number X d g ms o ho most v (nI i)
  · refine zr_iload i_Mod_number_40 rfl ?_
    refine zr_if_eq 79 i_Mod_number_42 (by decide) (fun _ => ?_) (fun q => absurd rfl q)
    exact x_Mod_number X d g ms o ho most v (nI i)
theorem l_Mod_number (X : zX) (d : Nat) (g : zH) (ms : zMS) (o : Option Nat) (ho : mto ms o) (most : Nat) : ∀ (k i : Nat) (v : Int32), i + k = msz ms o → zR X (d + 2) 124 30 [some (.ref 129), some (.int (tI o)), some (.int (nI most)), some (.int v), some (.int 1), some (.int (nI i))] [] (mset g ms) (some (.int (mnumL ms o i k v)), mset g ms) := by
  have hz := msz_lt ho
  intro k
  induction k with
  | zero =>
    intro i v hik
    refine zr_iload i_Mod_number_30 rfl ?_
    refine zr_aload_n i_Mod_number_32 rfl ?_
    refine zr_iload_n i_Mod_number_33 rfl ?_
    refine zr_cv1 i_Mod_number_34 rfl (by decide) rfl (Nat.le_of_ble_eq_true rfl) (Nat.le_of_ble_eq_true rfl) (e_Mod_sizeOf X (d + 1) g ms o ho) ?_
    refine zn_icmp_ge 79 i_Mod_number_37 (by decide) (by omega) (by omega) (fun _ => ?_) (fun q => absurd q (by omega))
    refine zr_iload i_Mod_number_79 rfl ?_
    refine zr_if_eq 88 i_Mod_number_81 (by decide) (fun q => absurd q (by decide)) (fun _ => ?_)
    refine zr_iload_n i_Mod_number_84 rfl ?_
    refine zr_goto 89 i_Mod_number_85 (by decide) ?_
    exact zR.retE i_Mod_number_89 rfl rfl
  | succ k ih =>
    intro i v hik
    refine zr_iload i_Mod_number_30 rfl ?_
    refine zr_aload_n i_Mod_number_32 rfl ?_
    refine zr_iload_n i_Mod_number_33 rfl ?_
    refine zr_cv1 i_Mod_number_34 rfl (by decide) rfl (Nat.le_of_ble_eq_true rfl) (Nat.le_of_ble_eq_true rfl) (e_Mod_sizeOf X (d + 1) g ms o ho) ?_
    refine zn_icmp_ge 79 i_Mod_number_37 (by decide) (by omega) (by omega) (fun q => absurd q (by omega)) (fun _ => ?_)
    refine zr_iload i_Mod_number_40 rfl ?_
    refine zr_if_eq 79 i_Mod_number_42 (by decide) (fun q => absurd q (by decide)) (fun _ => ?_)
    refine zr_aload_n i_Mod_number_45 rfl ?_
    refine zr_iload_n i_Mod_number_46 rfl ?_
    refine zr_iload i_Mod_number_47 rfl ?_
    refine zr_cv2 i_Mod_number_49 rfl (by decide) rfl (Nat.le_of_ble_eq_true rfl) (Nat.le_of_ble_eq_true rfl) (e_Mod_charOf X d g ms o ho i (by omega)) ?_
    refine zr_cs1 i_Mod_number_52 rfl (by decide) (Nat.le_of_ble_eq_true rfl) (Nat.le_of_ble_eq_true rfl) (e_Mod_digit X (d + 1) (mset g ms) (mch ms o i)) ?_
    refine zr_istore i_Mod_number_55 rfl ?_
    refine zr_bipush i_Mod_number_57 (v := 10) (by decide) ?_
    refine zr_iload_n i_Mod_number_59 rfl ?_
    refine zr_imul i_Mod_number_60 ?_
    refine zr_aload_n i_Mod_number_61 rfl ?_
    refine zr_iload_n i_Mod_number_62 rfl ?_
    refine zr_iload i_Mod_number_63 rfl ?_
    refine zr_cv2 i_Mod_number_65 rfl (by decide) rfl (Nat.le_of_ble_eq_true rfl) (Nat.le_of_ble_eq_true rfl) (e_Mod_charOf X d g ms o ho i (by omega)) ?_
    refine zr_iadd i_Mod_number_68 ?_
    refine zr_bipush i_Mod_number_69 (v := 48) (by decide) ?_
    refine zr_isub i_Mod_number_71 ?_
    refine zr_istore_n i_Mod_number_72 rfl ?_
    refine zn_iinc i_Mod_number_73 rfl rfl ?_
    refine zr_goto 30 i_Mod_number_76 (by decide) ?_
    rw [mnumL]
    cases hd : zdig (mch ms o i) with
    | true =>
      rw [if_pos rfl]
      exact ih (i + 1) _ (by omega)
    | false =>
      rw [if_neg (by decide)]
      exact y_Mod_number X d g ms o ho most (i + 1) (by omega) _
theorem e_Mod_number (X : zX) (d : Nat) (g : zH) (ms : zMS) (o : Option Nat) (ho : mto ms o) (most : Nat) (hm : most < 2 ^ 30) : zR X (d + 2) 124 0 (zent 6 [.ref 129, .int (tI o), .int (nI most)]) [] (mset g ms) (some (.int (mnum ms o most)), mset g ms) := by
  have hz := msz_lt ho
  have bad : ¬ (1 ≤ msz ms o ∧ msz ms o ≤ most) → zR X (d + 2) 124 24 [some (.ref 129), some (.int (tI o)), some (.int (nI most)), some (.int 0), none, none] [] (mset g ms) (some (.int (mnum ms o most)), mset g ms) := by
    intro hn
    refine zr_iconst i_Mod_number_24 (v := 0) (by decide) ?_
    refine zr_istore i_Mod_number_25 rfl ?_
    refine zr_iconst i_Mod_number_27 (v := 0) (by decide) ?_
    refine zr_istore i_Mod_number_28 rfl ?_
    unfold mnum
    rw [if_neg hn]
    exact y_Mod_number X d g ms o ho most 0 (by decide) 0
  refine zr_iconst i_Mod_number_0 (v := 0) (by decide) ?_
  refine zr_istore_n i_Mod_number_1 rfl ?_
  refine zr_aload_n i_Mod_number_2 rfl ?_
  refine zr_iload_n i_Mod_number_3 rfl ?_
  refine zr_cv1 i_Mod_number_4 rfl (by decide) rfl (Nat.le_of_ble_eq_true rfl) (Nat.le_of_ble_eq_true rfl) (e_Mod_sizeOf X (d + 1) g ms o ho) ?_
  refine zn_iconst 1 i_Mod_number_7 (by decide) ?_
  refine zn_icmp_lt 24 i_Mod_number_8 (by decide) (by omega) (by omega) (fun c_8 => bad (by omega)) (fun c_8 => ?_)
  refine zr_aload_n i_Mod_number_11 rfl ?_
  refine zr_iload_n i_Mod_number_12 rfl ?_
  refine zr_cv1 i_Mod_number_13 rfl (by decide) rfl (Nat.le_of_ble_eq_true rfl) (Nat.le_of_ble_eq_true rfl) (e_Mod_sizeOf X (d + 1) g ms o ho) ?_
  refine zr_iload_n i_Mod_number_16 rfl ?_
  refine zn_icmp_gt 24 i_Mod_number_17 (by decide) (by omega) (by omega) (fun c_17 => bad (by omega)) (fun c_17 => ?_)
  refine zr_iconst i_Mod_number_20 (v := 1) (by decide) ?_
  refine zr_goto 25 i_Mod_number_21 (by decide) ?_
  refine zr_istore i_Mod_number_25 rfl ?_
  refine zr_iconst i_Mod_number_27 (v := 0) (by decide) ?_
  refine zr_istore i_Mod_number_28 rfl ?_
  unfold mnum
  rw [if_pos ⟨by omega, by omega⟩]
  exact l_Mod_number X d g ms o ho most (msz ms o) 0 0 (by omega)
end
section
/-! THE REFERENCE: what a message says, over its texts -/
section KR
variable {X : zX} {d j pc : Nat} {L : zL} {r : List Value} {h : zH} {u : Option Value × zH}
theorem zB_if_eq {b : Bool} {off : Int} (t : Nat) (hi : zins j pc = some (.ifCond .eq off)) (ht : (pc : Int) + off = (t : Int)) (kt : b = false → zR X d j t L r h u) (kf : b = true → zR X d j (pc + 3) L r h u) : zR X d j pc L (.int (zb b) :: r) h u :=
  zr_if_eq t hi ht (fun q => kt (zb_eq0.mp q)) (fun q => kf (by cases b with
    | true => rfl
    | false => exact absurd rfl q))
theorem zB_if_ne {b : Bool} {off : Int} (t : Nat) (hi : zins j pc = some (.ifCond .ne off)) (ht : (pc : Int) + off = (t : Int)) (kt : b = true → zR X d j t L r h u) (kf : b = false → zR X d j (pc + 3) L r h u) : zR X d j pc L (.int (zb b) :: r) h u :=
  zr_if_ne t hi ht (fun q => kt (by cases b with
    | true => rfl
    | false => exact absurd rfl q)) (fun q => kf (zb_eq0.mp q))
theorem zN_if_eq {a : Nat} {off : Int} (t : Nat) (hi : zins j pc = some (.ifCond .eq off)) (ht : (pc : Int) + off = (t : Int)) (ha : a < 2 ^ 31) (kt : a = 0 → zR X d j t L r h u) (kf : a ≠ 0 → zR X d j (pc + 3) L r h u) : zR X d j pc L (.int (nI a) :: r) h u :=
  zr_if_eq t hi ht (fun q => kt ((nI_eq (b := 0) ha (by decide)).mp q)) (fun q => kf (fun e => q (by rw [e]; rfl)))
theorem zN_if_ne {a : Nat} {off : Int} (t : Nat) (hi : zins j pc = some (.ifCond .ne off)) (ht : (pc : Int) + off = (t : Int)) (ha : a < 2 ^ 31) (kt : a ≠ 0 → zR X d j t L r h u) (kf : a = 0 → zR X d j (pc + 3) L r h u) : zR X d j pc L (.int (nI a) :: r) h u :=
  zr_if_ne t hi ht (fun q => kt (fun e => q (by rw [e]; rfl))) (fun q => kf ((nI_eq (b := 0) ha (by decide)).mp q))
theorem zN_if_le {a : Nat} {off : Int} (t : Nat) (hi : zins j pc = some (.ifCond .le off)) (ht : (pc : Int) + off = (t : Int)) (ha : a < 2 ^ 31) (kt : a = 0 → zR X d j t L r h u) (kf : 0 < a → zR X d j (pc + 3) L r h u) : zR X d j pc L (.int (nI a) :: r) h u :=
  zr_if_le t hi ht (fun q => kt (Nat.le_zero.mp ((nI_leI (b := 0) ha (by decide)).mp q))) (fun q => kf (Nat.pos_of_ne_zero (fun e => q (by rw [e]; decide))))
theorem zN_if_gt {a : Nat} {off : Int} (t : Nat) (hi : zins j pc = some (.ifCond .gt off)) (ht : (pc : Int) + off = (t : Int)) (ha : a < 2 ^ 31) (kt : 0 < a → zR X d j t L r h u) (kf : a = 0 → zR X d j (pc + 3) L r h u) : zR X d j pc L (.int (nI a) :: r) h u :=
  zr_if_gt t hi ht (fun q => kt ((nI_ltI (a := 0) (by decide) ha).mp q)) (fun q => kf (Nat.eq_zero_of_not_pos (fun e => q ((nI_ltI (a := 0) (by decide) ha).mpr e))))
theorem zT_if_lt {o : Option Nat} {off : Int} (t : Nat) (hi : zins j pc = some (.ifCond .lt off)) (ht : (pc : Int) + off = (t : Int)) (ho : ∀ k, o = some k → k < 2 ^ 31) (kt : o = none → zR X d j t L r h u) (kf : o.isSome = true → zR X d j (pc + 3) L r h u) : zR X d j pc L (.int (tI o) :: r) h u := by
  refine zr_if_lt t hi ht (fun q => kt ?_) (fun q => kf ?_)
  · cases o with
    | none => rfl
    | some k => exact absurd q (nI_pos (ho k rfl))
  · cases o with
    | none => exact absurd tI_neg q
    | some k => rfl
theorem zT_if_ge {o : Option Nat} {off : Int} (t : Nat) (hi : zins j pc = some (.ifCond .ge off)) (ht : (pc : Int) + off = (t : Int)) (ho : ∀ k, o = some k → k < 2 ^ 31) (kt : o.isSome = true → zR X d j t L r h u) (kf : o = none → zR X d j (pc + 3) L r h u) : zR X d j pc L (.int (tI o) :: r) h u := by
  refine zr_if_ge t hi ht (fun q => kt ?_) (fun q => kf ?_)
  · cases o with
    | none => exact absurd q (by decide)
    | some k => rfl
  · cases o with
    | none => rfl
    | some k => exact absurd (nI_pos' (ho k rfl)) q
end KR
theorem zretB (b : Bool) : zret (some .boolean) .ireturn [.int (zb b)] = some (some (.int (zb b))) := by cases b <;> rfl
/-- a text that is there, or none -/
abbrev zT : Type := Option (List Int32)
def tl (o : zT) : Nat := (o.getD []).length
def tc (o : zT) (i : Nat) : Int32 := (o.getD []).getD i 0
def mtx (ms : zMS) (o : Option Nat) : zT := o.map fun k => (List.range (msz ms (some k))).map (mch ms (some k))
theorem tl_mtx (ms : zMS) (o : Option Nat) : tl (mtx ms o) = msz ms o := by
  cases o with
  | none => rfl
  | some k => simp [tl, mtx]
theorem tc_mtx (ms : zMS) (o : Option Nat) (i : Nat) : tc (mtx ms o) i = mch ms o i := by
  cases o with
  | none => rfl
  | some k =>
    simp only [tc, mtx, Option.map_some, Option.getD_some, List.getD_eq_getElem?_getD, List.getElem?_map]
    by_cases hi : i < msz ms (some k)
    · rw [List.getElem?_range hi]; rfl
    · rw [List.getElem?_eq_none (by simp; omega)]
      show (0 : Int32) = if i < (ms.2 11 k).toNatClampNeg then _ else 0
      exact (if_neg hi).symm
theorem mtx_none {ms : zMS} {o : Option Nat} : mtx ms o = none ↔ o = none := by cases o <;> simp [mtx]
def vis (t : zT) (a b c : Int32) : Bool := decide (tl t = 3) && (decide (tc t 0 = a) && (decide (tc t 1 = b) && decide (tc t 2 = c)))
def vnull (t : zT) : Bool := decide (tl t = 2) && (decide (tc t 0 = 34) && decide (tc t 1 = 34))
def vnumL (t : zT) (i k : Nat) (v : Int32) : Int32 := match k with
  | 0 => v
  | k + 1 => if zdig (tc t i) = true then vnumL t (i + 1) k (10 * v + tc t i - 48) else -1
def vnum (t : zT) (most : Nat) : Int32 := if 1 ≤ tl t ∧ tl t ≤ most then vnumL t 0 (tl t) 0 else -1
theorem mnumL_v (ms : zMS) (o : Option Nat) : ∀ (k i : Nat) (v : Int32), mnumL ms o i k v = vnumL (mtx ms o) i k v := by
  intro k
  induction k with
  | zero => intro i v; rfl
  | succ k ih => intro i v; rw [mnumL, vnumL, tc_mtx, ih]
/-- the texts that a message holds -/
def mV (ms : zMS) (s f r c : Int32) : zT := mtx ms (mfind ms 0 s f r c)
theorem v_sizeOf (X : zX) (d : Nat) (g : zH) (ms : zMS) (o : Option Nat) (ho : mto ms o) : zR X d 116 0 (zent 2 [.ref 129, .int (tI o)]) [] (mset g ms) (some (.int (nI (tl (mtx ms o)))), mset g ms) := by
  rw [tl_mtx]; exact e_Mod_sizeOf X d g ms o ho
theorem v_charOf (X : zX) (d : Nat) (g : zH) (ms : zMS) (o : Option Nat) (ho : mto ms o) (m : Nat) (hm : m < 2 ^ 30) : zR X (d + 1) 117 0 (zent 3 [.ref 129, .int (tI o), .int (nI m)]) [] (mset g ms) (some (.int (tc (mtx ms o) m)), mset g ms) := by
  rw [tc_mtx]; exact e_Mod_charOf X d g ms o ho m hm
theorem v_is (X : zX) (d : Nat) (g : zH) (ms : zMS) (o : Option Nat) (ho : mto ms o) (a b c : Int32) : zR X (d + 2) 120 0 (zent 5 [.ref 129, .int (tI o), .int a, .int b, .int c]) [] (mset g ms) (some (.int (zb (vis (mtx ms o) a b c))), mset g ms) := by
  rw [vis, tl_mtx, tc_mtx, tc_mtx, tc_mtx]; exact e_Mod_is X d g ms o ho a b c
theorem v_isNull (X : zX) (d : Nat) (g : zH) (ms : zMS) (o : Option Nat) (ho : mto ms o) : zR X (d + 2) 130 0 (zent 2 [.ref 129, .int (tI o)]) [] (mset g ms) (some (.int (zb (vnull (mtx ms o)))), mset g ms) := by
  rw [vnull, tl_mtx, tc_mtx, tc_mtx]; exact e_Mod_isNull X d g ms o ho
theorem v_number (X : zX) (d : Nat) (g : zH) (ms : zMS) (o : Option Nat) (ho : mto ms o) (most : Nat) (hm : most < 2 ^ 30) : zR X (d + 2) 124 0 (zent 6 [.ref 129, .int (tI o), .int (nI most)]) [] (mset g ms) (some (.int (vnum (mtx ms o) most)), mset g ms) := by
  rw [vnum, tl_mtx, ← mnumL_v]; exact e_Mod_number X d g ms o ho most hm
theorem v_tl (ms : zMS) (o : Option Nat) (ho : mto ms o) : tl (mtx ms o) ≤ 400 := by rw [tl_mtx]; exact msz_lt ho
def patF (V : Int32 → Int32 → Int32 → Int32 → zT) (pid : Nat) : Int32 := if pid = 0 then -1 else if tc (V (nI pid) 1 1 1) 0 = 48 then -1 else vnum (V (nI pid) 1 1 1) 2
def bedF (V : Int32 → Int32 → Int32 → Int32 → zT) (pv : Nat) : Int32 := if (0 < pv ∧ tl (V (nI pv) 1 1 1) = 1) ∧ tl (V (nI pv) 1 1 2) = 1 ∧ ¬ tc (V (nI pv) 1 1 1) 0 < 65 ∧ ¬ 68 < tc (V (nI pv) 1 1 1) 0 ∧ ¬ tc (V (nI pv) 1 1 2) 0 < 48 ∧ ¬ 55 < tc (V (nI pv) 1 1 2) 0 then 8 * (tc (V (nI pv) 1 1 1) 0 - 65) + tc (V (nI pv) 1 1 2) 0 - 48 else -1
def codeF (V : Int32 → Int32 → Int32 → Int32 → zT) (s : Nat) : Int32 := if tl (V (nI s) 1 1 1) = 2 ∧ zsml (tc (V (nI s) 1 1 1) 0) = true ∧ zsml (tc (V (nI s) 1 1 1) 1) = true then 26 * (tc (V (nI s) 1 1 1) 0 - 97) + tc (V (nI s) 1 1 1) 1 - 97 else -1
def kindF (V : Int32 → Int32 → Int32 → Int32 → zT) : Int32 := if vis (V 1 3 1 1) 79 82 85 = true then (if vis (V 1 3 1 2) 82 48 49 = true then 9 else 0) else if (vis (V 1 3 1 1) 65 68 84 = true ∧ tl (V 1 3 1 2) = 3 ∧ tc (V 1 3 1 2) 0 = 65 ∧ tc (V 1 3 1 2) 1 = 48) ∧ (tc (V 1 3 1 2) 2 = 49 ∨ tc (V 1 3 1 2) 2 = 50 ∨ tc (V 1 3 1 2) 2 = 51 ∨ tc (V 1 3 1 2) 2 = 56) then tc (V 1 3 1 2) 2 - 48 else 0
theorem i_Mod_patientIn_0 : zins 123 0 = some (.aload_n 0) := by decide +kernel
theorem i_Mod_patientIn_1 : zins 123 1 = some (.iconst 0) := by decide +kernel
theorem i_Mod_patientIn_2 : zins 123 2 = some (.iload_n 1) := by decide +kernel
theorem i_Mod_patientIn_3 : zins 123 3 = some (.iconst 1) := by decide +kernel
theorem i_Mod_patientIn_4 : zins 123 4 = some (.iconst 1) := by decide +kernel
theorem i_Mod_patientIn_5 : zins 123 5 = some (.iconst 1) := by decide +kernel
theorem i_Mod_patientIn_6 : zins 123 6 = some (.invokevirtual 153) := by decide +kernel
theorem i_Mod_patientIn_9 : zins 123 9 = some (.istore_n 2) := by decide +kernel
theorem i_Mod_patientIn_10 : zins 123 10 = some (.iload_n 1) := by decide +kernel
theorem i_Mod_patientIn_11 : zins 123 11 = some (.ifCond .eq 14) := by decide +kernel
theorem i_Mod_patientIn_14 : zins 123 14 = some (.aload_n 0) := by decide +kernel
theorem i_Mod_patientIn_15 : zins 123 15 = some (.iload_n 2) := by decide +kernel
theorem i_Mod_patientIn_16 : zins 123 16 = some (.iconst 0) := by decide +kernel
theorem i_Mod_patientIn_17 : zins 123 17 = some (.invokevirtual 149) := by decide +kernel
theorem i_Mod_patientIn_20 : zins 123 20 = some (.bipush 48) := by decide +kernel
theorem i_Mod_patientIn_22 : zins 123 22 = some (.if_icmp .ne 7) := by decide +kernel
theorem i_Mod_patientIn_25 : zins 123 25 = some (.iconst (-1)) := by decide +kernel
theorem i_Mod_patientIn_26 : zins 123 26 = some (.goto 9) := by decide +kernel
theorem i_Mod_patientIn_29 : zins 123 29 = some (.aload_n 0) := by decide +kernel
theorem i_Mod_patientIn_30 : zins 123 30 = some (.iload_n 2) := by decide +kernel
theorem i_Mod_patientIn_31 : zins 123 31 = some (.iconst 2) := by decide +kernel
theorem i_Mod_patientIn_32 : zins 123 32 = some (.invokevirtual 161) := by decide +kernel
theorem i_Mod_patientIn_35 : zins 123 35 = some (.ireturn) := by decide +kernel
theorem e_Mod_patientIn (X : zX) (d : Nat) (g : zH) (ms : zMS) (cnt : Nat) (hT : mTV ms 0 cnt) (pid : Nat) (hp : pid < 2 ^ 30) : zR X (d + 3) 123 0 (zent 3 [.ref 129, .int (nI pid)]) [] (mset g ms) (some (.int (patF (mV ms) pid)), mset g ms) := by
  refine zr_aload_n i_Mod_patientIn_0 rfl ?_
  refine zn_iconst 0 i_Mod_patientIn_1 (by decide) ?_
  refine zr_iload_n i_Mod_patientIn_2 rfl ?_
  refine zr_iconst i_Mod_patientIn_3 (v := 1) (by decide) ?_
  refine zr_iconst i_Mod_patientIn_4 (v := 1) (by decide) ?_
  refine zr_iconst i_Mod_patientIn_5 (v := 1) (by decide) ?_
  refine zr_cv5 i_Mod_patientIn_6 rfl (by decide) rfl (Nat.le_of_ble_eq_true rfl) (Nat.le_of_ble_eq_true rfl) (e_Mod_find X _ g ms 0 cnt _ _ _ _ (by decide) hT.1 hT.2.1) ?_
  refine zr_istore_n i_Mod_patientIn_9 rfl ?_
  refine zr_iload_n i_Mod_patientIn_10 rfl ?_
  refine zN_if_eq 25 i_Mod_patientIn_11 (by decide) (by omega) (fun c_11 => ?_) (fun c_11 => ?_)
  · skip
    refine zr_iconst i_Mod_patientIn_25 (v := (-1)) (by decide) ?_
    refine zr_goto 35 i_Mod_patientIn_26 (by decide) ?_
    exact zR.retE i_Mod_patientIn_35 rfl (by simp [patF, mV, *])
  · skip
    refine zr_aload_n i_Mod_patientIn_14 rfl ?_
    refine zr_iload_n i_Mod_patientIn_15 rfl ?_
    refine zn_iconst 0 i_Mod_patientIn_16 (by decide) ?_
    refine zr_cv2 i_Mod_patientIn_17 rfl (by decide) rfl (Nat.le_of_ble_eq_true rfl) (Nat.le_of_ble_eq_true rfl) (v_charOf X _ g ms _ (mto_find hT _ _ _ _) _ (by first | decide | omega)) ?_
    refine zr_bipush i_Mod_patientIn_20 (v := 48) (by decide) ?_
    refine zr_icmp_ne 29 i_Mod_patientIn_22 (by decide) (fun c_22 => ?_) (fun c_22 => ?_)
    · skip
      refine zr_aload_n i_Mod_patientIn_29 rfl ?_
      refine zr_iload_n i_Mod_patientIn_30 rfl ?_
      refine zn_iconst 2 i_Mod_patientIn_31 (by decide) ?_
      refine zr_cv2 i_Mod_patientIn_32 rfl (by decide) rfl (Nat.le_of_ble_eq_true rfl) (Nat.le_of_ble_eq_true rfl) (v_number X _ g ms _ (mto_find hT _ _ _ _) _ (by decide)) ?_
      exact zR.retE i_Mod_patientIn_35 rfl (by simp [patF, mV, *])
    · skip
      refine zr_iconst i_Mod_patientIn_25 (v := (-1)) (by decide) ?_
      refine zr_goto 35 i_Mod_patientIn_26 (by decide) ?_
      exact zR.retE i_Mod_patientIn_35 rfl (by simp [patF, mV, *])
theorem i_Mod_bedIn_0 : zins 125 0 = some (.aload_n 0) := by decide +kernel
theorem i_Mod_bedIn_1 : zins 125 1 = some (.iconst 0) := by decide +kernel
theorem i_Mod_bedIn_2 : zins 125 2 = some (.iload_n 1) := by decide +kernel
theorem i_Mod_bedIn_3 : zins 125 3 = some (.iconst 1) := by decide +kernel
theorem i_Mod_bedIn_4 : zins 125 4 = some (.iconst 1) := by decide +kernel
theorem i_Mod_bedIn_5 : zins 125 5 = some (.iconst 1) := by decide +kernel
theorem i_Mod_bedIn_6 : zins 125 6 = some (.invokevirtual 153) := by decide +kernel
theorem i_Mod_bedIn_9 : zins 125 9 = some (.istore_n 2) := by decide +kernel
theorem i_Mod_bedIn_10 : zins 125 10 = some (.aload_n 0) := by decide +kernel
theorem i_Mod_bedIn_11 : zins 125 11 = some (.iconst 0) := by decide +kernel
theorem i_Mod_bedIn_12 : zins 125 12 = some (.iload_n 1) := by decide +kernel
theorem i_Mod_bedIn_13 : zins 125 13 = some (.iconst 1) := by decide +kernel
theorem i_Mod_bedIn_14 : zins 125 14 = some (.iconst 1) := by decide +kernel
theorem i_Mod_bedIn_15 : zins 125 15 = some (.iconst 2) := by decide +kernel
theorem i_Mod_bedIn_16 : zins 125 16 = some (.invokevirtual 153) := by decide +kernel
theorem i_Mod_bedIn_19 : zins 125 19 = some (.istore_n 3) := by decide +kernel
theorem i_Mod_bedIn_20 : zins 125 20 = some (.aload_n 0) := by decide +kernel
theorem i_Mod_bedIn_21 : zins 125 21 = some (.iload_n 2) := by decide +kernel
theorem i_Mod_bedIn_22 : zins 125 22 = some (.iconst 0) := by decide +kernel
theorem i_Mod_bedIn_23 : zins 125 23 = some (.invokevirtual 149) := by decide +kernel
theorem i_Mod_bedIn_26 : zins 125 26 = some (.istore 4) := by decide +kernel
theorem i_Mod_bedIn_28 : zins 125 28 = some (.aload_n 0) := by decide +kernel
theorem i_Mod_bedIn_29 : zins 125 29 = some (.iload_n 3) := by decide +kernel
theorem i_Mod_bedIn_30 : zins 125 30 = some (.iconst 0) := by decide +kernel
theorem i_Mod_bedIn_31 : zins 125 31 = some (.invokevirtual 149) := by decide +kernel
theorem i_Mod_bedIn_34 : zins 125 34 = some (.istore 5) := by decide +kernel
theorem i_Mod_bedIn_36 : zins 125 36 = some (.iload_n 1) := by decide +kernel
theorem i_Mod_bedIn_37 : zins 125 37 = some (.ifCond .le 53) := by decide +kernel
theorem i_Mod_bedIn_40 : zins 125 40 = some (.aload_n 0) := by decide +kernel
theorem i_Mod_bedIn_41 : zins 125 41 = some (.iload_n 2) := by decide +kernel
theorem i_Mod_bedIn_42 : zins 125 42 = some (.invokevirtual 145) := by decide +kernel
theorem i_Mod_bedIn_45 : zins 125 45 = some (.iconst 1) := by decide +kernel
theorem i_Mod_bedIn_46 : zins 125 46 = some (.if_icmp .ne 44) := by decide +kernel
theorem i_Mod_bedIn_49 : zins 125 49 = some (.aload_n 0) := by decide +kernel
theorem i_Mod_bedIn_50 : zins 125 50 = some (.iload_n 3) := by decide +kernel
theorem i_Mod_bedIn_51 : zins 125 51 = some (.invokevirtual 145) := by decide +kernel
theorem i_Mod_bedIn_54 : zins 125 54 = some (.iconst 1) := by decide +kernel
theorem i_Mod_bedIn_55 : zins 125 55 = some (.if_icmp .ne 35) := by decide +kernel
theorem i_Mod_bedIn_58 : zins 125 58 = some (.iload 4) := by decide +kernel
theorem i_Mod_bedIn_60 : zins 125 60 = some (.bipush 65) := by decide +kernel
theorem i_Mod_bedIn_62 : zins 125 62 = some (.if_icmp .lt 28) := by decide +kernel
theorem i_Mod_bedIn_65 : zins 125 65 = some (.iload 4) := by decide +kernel
theorem i_Mod_bedIn_67 : zins 125 67 = some (.bipush 68) := by decide +kernel
theorem i_Mod_bedIn_69 : zins 125 69 = some (.if_icmp .gt 21) := by decide +kernel
theorem i_Mod_bedIn_72 : zins 125 72 = some (.iload 5) := by decide +kernel
theorem i_Mod_bedIn_74 : zins 125 74 = some (.bipush 48) := by decide +kernel
theorem i_Mod_bedIn_76 : zins 125 76 = some (.if_icmp .lt 14) := by decide +kernel
theorem i_Mod_bedIn_79 : zins 125 79 = some (.iload 5) := by decide +kernel
theorem i_Mod_bedIn_81 : zins 125 81 = some (.bipush 55) := by decide +kernel
theorem i_Mod_bedIn_83 : zins 125 83 = some (.if_icmp .gt 7) := by decide +kernel
theorem i_Mod_bedIn_86 : zins 125 86 = some (.iconst 1) := by decide +kernel
theorem i_Mod_bedIn_87 : zins 125 87 = some (.goto 4) := by decide +kernel
theorem i_Mod_bedIn_90 : zins 125 90 = some (.iconst 0) := by decide +kernel
theorem i_Mod_bedIn_91 : zins 125 91 = some (.istore 6) := by decide +kernel
theorem i_Mod_bedIn_93 : zins 125 93 = some (.iload 6) := by decide +kernel
theorem i_Mod_bedIn_95 : zins 125 95 = some (.ifCond .eq 20) := by decide +kernel
theorem i_Mod_bedIn_98 : zins 125 98 = some (.bipush 8) := by decide +kernel
theorem i_Mod_bedIn_100 : zins 125 100 = some (.iload 4) := by decide +kernel
theorem i_Mod_bedIn_102 : zins 125 102 = some (.bipush 65) := by decide +kernel
theorem i_Mod_bedIn_104 : zins 125 104 = some (.isub) := by decide +kernel
theorem i_Mod_bedIn_105 : zins 125 105 = some (.imul) := by decide +kernel
theorem i_Mod_bedIn_106 : zins 125 106 = some (.iload 5) := by decide +kernel
theorem i_Mod_bedIn_108 : zins 125 108 = some (.iadd) := by decide +kernel
theorem i_Mod_bedIn_109 : zins 125 109 = some (.bipush 48) := by decide +kernel
theorem i_Mod_bedIn_111 : zins 125 111 = some (.isub) := by decide +kernel
theorem i_Mod_bedIn_112 : zins 125 112 = some (.goto 4) := by decide +kernel
theorem i_Mod_bedIn_115 : zins 125 115 = some (.iconst (-1)) := by decide +kernel
theorem i_Mod_bedIn_116 : zins 125 116 = some (.ireturn) := by decide +kernel
theorem e_Mod_bedIn (X : zX) (d : Nat) (g : zH) (ms : zMS) (cnt : Nat) (hT : mTV ms 0 cnt) (pv : Nat) (hp : pv < 2 ^ 30) : zR X (d + 2) 125 0 (zent 7 [.ref 129, .int (nI pv)]) [] (mset g ms) (some (.int (bedF (mV ms) pv)), mset g ms) := by
  have hz := fun s f r c => v_tl ms _ (mto_find hT s f r c)
  refine zr_aload_n i_Mod_bedIn_0 rfl ?_
  refine zn_iconst 0 i_Mod_bedIn_1 (by decide) ?_
  refine zr_iload_n i_Mod_bedIn_2 rfl ?_
  refine zr_iconst i_Mod_bedIn_3 (v := 1) (by decide) ?_
  refine zr_iconst i_Mod_bedIn_4 (v := 1) (by decide) ?_
  refine zr_iconst i_Mod_bedIn_5 (v := 1) (by decide) ?_
  refine zr_cv5 i_Mod_bedIn_6 rfl (by decide) rfl (Nat.le_of_ble_eq_true rfl) (Nat.le_of_ble_eq_true rfl) (e_Mod_find X _ g ms 0 cnt _ _ _ _ (by decide) hT.1 hT.2.1) ?_
  refine zr_istore_n i_Mod_bedIn_9 rfl ?_
  refine zr_aload_n i_Mod_bedIn_10 rfl ?_
  refine zn_iconst 0 i_Mod_bedIn_11 (by decide) ?_
  refine zr_iload_n i_Mod_bedIn_12 rfl ?_
  refine zr_iconst i_Mod_bedIn_13 (v := 1) (by decide) ?_
  refine zr_iconst i_Mod_bedIn_14 (v := 1) (by decide) ?_
  refine zr_iconst i_Mod_bedIn_15 (v := 2) (by decide) ?_
  refine zr_cv5 i_Mod_bedIn_16 rfl (by decide) rfl (Nat.le_of_ble_eq_true rfl) (Nat.le_of_ble_eq_true rfl) (e_Mod_find X _ g ms 0 cnt _ _ _ _ (by decide) hT.1 hT.2.1) ?_
  refine zr_istore_n i_Mod_bedIn_19 rfl ?_
  refine zr_aload_n i_Mod_bedIn_20 rfl ?_
  refine zr_iload_n i_Mod_bedIn_21 rfl ?_
  refine zn_iconst 0 i_Mod_bedIn_22 (by decide) ?_
  refine zr_cv2 i_Mod_bedIn_23 rfl (by decide) rfl (Nat.le_of_ble_eq_true rfl) (Nat.le_of_ble_eq_true rfl) (v_charOf X _ g ms _ (mto_find hT _ _ _ _) _ (by first | decide | omega)) ?_
  refine zr_istore i_Mod_bedIn_26 rfl ?_
  refine zr_aload_n i_Mod_bedIn_28 rfl ?_
  refine zr_iload_n i_Mod_bedIn_29 rfl ?_
  refine zn_iconst 0 i_Mod_bedIn_30 (by decide) ?_
  refine zr_cv2 i_Mod_bedIn_31 rfl (by decide) rfl (Nat.le_of_ble_eq_true rfl) (Nat.le_of_ble_eq_true rfl) (v_charOf X _ g ms _ (mto_find hT _ _ _ _) _ (by first | decide | omega)) ?_
  refine zr_istore i_Mod_bedIn_34 rfl ?_
  refine zr_iload_n i_Mod_bedIn_36 rfl ?_
  refine zN_if_le 90 i_Mod_bedIn_37 (by decide) (by omega) (fun c_37 => ?_) (fun c_37 => ?_)
  · skip
    refine zr_iconst i_Mod_bedIn_90 (v := 0) (by decide) ?_
    refine zr_istore i_Mod_bedIn_91 rfl ?_
    refine zr_iload i_Mod_bedIn_93 rfl ?_
    refine zr_if_eq 115 i_Mod_bedIn_95 (by decide) (fun _ => ?_) (fun q => absurd (by decide) q)
    refine zr_iconst i_Mod_bedIn_115 (v := (-1)) (by decide) ?_
    exact zR.retE i_Mod_bedIn_116 rfl (by simp [bedF, mV, *])
  · skip
    refine zr_aload_n i_Mod_bedIn_40 rfl ?_
    refine zr_iload_n i_Mod_bedIn_41 rfl ?_
    refine zr_cv1 i_Mod_bedIn_42 rfl (by decide) rfl (Nat.le_of_ble_eq_true rfl) (Nat.le_of_ble_eq_true rfl) (v_sizeOf X _ g ms _ (mto_find hT _ _ _ _)) ?_
    refine zn_iconst 1 i_Mod_bedIn_45 (by decide) ?_
    refine zn_icmp_ne 90 i_Mod_bedIn_46 (by decide) (by have := hz (nI pv) 1 1 1; have := hz (nI pv) 1 1 2; omega) (by omega) (fun c_46 => ?_) (fun c_46 => ?_)
    · skip
      refine zr_iconst i_Mod_bedIn_90 (v := 0) (by decide) ?_
      refine zr_istore i_Mod_bedIn_91 rfl ?_
      refine zr_iload i_Mod_bedIn_93 rfl ?_
      refine zr_if_eq 115 i_Mod_bedIn_95 (by decide) (fun _ => ?_) (fun q => absurd (by decide) q)
      refine zr_iconst i_Mod_bedIn_115 (v := (-1)) (by decide) ?_
      exact zR.retE i_Mod_bedIn_116 rfl (by simp [bedF, mV, *])
    · skip
      refine zr_aload_n i_Mod_bedIn_49 rfl ?_
      refine zr_iload_n i_Mod_bedIn_50 rfl ?_
      refine zr_cv1 i_Mod_bedIn_51 rfl (by decide) rfl (Nat.le_of_ble_eq_true rfl) (Nat.le_of_ble_eq_true rfl) (v_sizeOf X _ g ms _ (mto_find hT _ _ _ _)) ?_
      refine zn_iconst 1 i_Mod_bedIn_54 (by decide) ?_
      refine zn_icmp_ne 90 i_Mod_bedIn_55 (by decide) (by have := hz (nI pv) 1 1 1; have := hz (nI pv) 1 1 2; omega) (by omega) (fun c_55 => ?_) (fun c_55 => ?_)
      · skip
        refine zr_iconst i_Mod_bedIn_90 (v := 0) (by decide) ?_
        refine zr_istore i_Mod_bedIn_91 rfl ?_
        refine zr_iload i_Mod_bedIn_93 rfl ?_
        refine zr_if_eq 115 i_Mod_bedIn_95 (by decide) (fun _ => ?_) (fun q => absurd (by decide) q)
        refine zr_iconst i_Mod_bedIn_115 (v := (-1)) (by decide) ?_
        exact zR.retE i_Mod_bedIn_116 rfl (by simp [bedF, mV, *])
      · skip
        refine zr_iload i_Mod_bedIn_58 rfl ?_
        refine zr_bipush i_Mod_bedIn_60 (v := 65) (by decide) ?_
        refine zr_icmp_lt 90 i_Mod_bedIn_62 (by decide) (fun c_62 => ?_) (fun c_62 => ?_)
        · skip
          refine zr_iconst i_Mod_bedIn_90 (v := 0) (by decide) ?_
          refine zr_istore i_Mod_bedIn_91 rfl ?_
          refine zr_iload i_Mod_bedIn_93 rfl ?_
          refine zr_if_eq 115 i_Mod_bedIn_95 (by decide) (fun _ => ?_) (fun q => absurd (by decide) q)
          refine zr_iconst i_Mod_bedIn_115 (v := (-1)) (by decide) ?_
          exact zR.retE i_Mod_bedIn_116 rfl (by simp [bedF, mV, *])
        · skip
          refine zr_iload i_Mod_bedIn_65 rfl ?_
          refine zr_bipush i_Mod_bedIn_67 (v := 68) (by decide) ?_
          refine zr_icmp_gt 90 i_Mod_bedIn_69 (by decide) (fun c_69 => ?_) (fun c_69 => ?_)
          · skip
            refine zr_iconst i_Mod_bedIn_90 (v := 0) (by decide) ?_
            refine zr_istore i_Mod_bedIn_91 rfl ?_
            refine zr_iload i_Mod_bedIn_93 rfl ?_
            refine zr_if_eq 115 i_Mod_bedIn_95 (by decide) (fun _ => ?_) (fun q => absurd (by decide) q)
            refine zr_iconst i_Mod_bedIn_115 (v := (-1)) (by decide) ?_
            exact zR.retE i_Mod_bedIn_116 rfl (by simp [bedF, mV, *])
          · skip
            refine zr_iload i_Mod_bedIn_72 rfl ?_
            refine zr_bipush i_Mod_bedIn_74 (v := 48) (by decide) ?_
            refine zr_icmp_lt 90 i_Mod_bedIn_76 (by decide) (fun c_76 => ?_) (fun c_76 => ?_)
            · skip
              refine zr_iconst i_Mod_bedIn_90 (v := 0) (by decide) ?_
              refine zr_istore i_Mod_bedIn_91 rfl ?_
              refine zr_iload i_Mod_bedIn_93 rfl ?_
              refine zr_if_eq 115 i_Mod_bedIn_95 (by decide) (fun _ => ?_) (fun q => absurd (by decide) q)
              refine zr_iconst i_Mod_bedIn_115 (v := (-1)) (by decide) ?_
              exact zR.retE i_Mod_bedIn_116 rfl (by simp [bedF, mV, *])
            · skip
              refine zr_iload i_Mod_bedIn_79 rfl ?_
              refine zr_bipush i_Mod_bedIn_81 (v := 55) (by decide) ?_
              refine zr_icmp_gt 90 i_Mod_bedIn_83 (by decide) (fun c_83 => ?_) (fun c_83 => ?_)
              · skip
                refine zr_iconst i_Mod_bedIn_90 (v := 0) (by decide) ?_
                refine zr_istore i_Mod_bedIn_91 rfl ?_
                refine zr_iload i_Mod_bedIn_93 rfl ?_
                refine zr_if_eq 115 i_Mod_bedIn_95 (by decide) (fun _ => ?_) (fun q => absurd (by decide) q)
                refine zr_iconst i_Mod_bedIn_115 (v := (-1)) (by decide) ?_
                exact zR.retE i_Mod_bedIn_116 rfl (by simp [bedF, mV, *])
              · skip
                refine zr_iconst i_Mod_bedIn_86 (v := 1) (by decide) ?_
                refine zr_goto 91 i_Mod_bedIn_87 (by decide) ?_
                refine zr_istore i_Mod_bedIn_91 rfl ?_
                refine zr_iload i_Mod_bedIn_93 rfl ?_
                refine zr_if_eq 115 i_Mod_bedIn_95 (by decide) (fun q => absurd q (by decide)) (fun _ => ?_)
                refine zr_bipush i_Mod_bedIn_98 (v := 8) (by decide) ?_
                refine zr_iload i_Mod_bedIn_100 rfl ?_
                refine zr_bipush i_Mod_bedIn_102 (v := 65) (by decide) ?_
                refine zr_isub i_Mod_bedIn_104 ?_
                refine zr_imul i_Mod_bedIn_105 ?_
                refine zr_iload i_Mod_bedIn_106 rfl ?_
                refine zr_iadd i_Mod_bedIn_108 ?_
                refine zr_bipush i_Mod_bedIn_109 (v := 48) (by decide) ?_
                refine zr_isub i_Mod_bedIn_111 ?_
                refine zr_goto 116 i_Mod_bedIn_112 (by decide) ?_
                exact zR.retE i_Mod_bedIn_116 rfl (by simp [bedF, mV, *])
theorem i_Mod_codeIn_0 : zins 128 0 = some (.aload_n 0) := by decide +kernel
theorem i_Mod_codeIn_1 : zins 128 1 = some (.iconst 0) := by decide +kernel
theorem i_Mod_codeIn_2 : zins 128 2 = some (.iload_n 1) := by decide +kernel
theorem i_Mod_codeIn_3 : zins 128 3 = some (.iconst 1) := by decide +kernel
theorem i_Mod_codeIn_4 : zins 128 4 = some (.iconst 1) := by decide +kernel
theorem i_Mod_codeIn_5 : zins 128 5 = some (.iconst 1) := by decide +kernel
theorem i_Mod_codeIn_6 : zins 128 6 = some (.invokevirtual 153) := by decide +kernel
theorem i_Mod_codeIn_9 : zins 128 9 = some (.istore_n 2) := by decide +kernel
theorem i_Mod_codeIn_10 : zins 128 10 = some (.aload_n 0) := by decide +kernel
theorem i_Mod_codeIn_11 : zins 128 11 = some (.iload_n 2) := by decide +kernel
theorem i_Mod_codeIn_12 : zins 128 12 = some (.invokevirtual 145) := by decide +kernel
theorem i_Mod_codeIn_15 : zins 128 15 = some (.iconst 2) := by decide +kernel
theorem i_Mod_codeIn_16 : zins 128 16 = some (.if_icmp .ne 31) := by decide +kernel
theorem i_Mod_codeIn_19 : zins 128 19 = some (.aload_n 0) := by decide +kernel
theorem i_Mod_codeIn_20 : zins 128 20 = some (.iload_n 2) := by decide +kernel
theorem i_Mod_codeIn_21 : zins 128 21 = some (.iconst 0) := by decide +kernel
theorem i_Mod_codeIn_22 : zins 128 22 = some (.invokevirtual 149) := by decide +kernel
theorem i_Mod_codeIn_25 : zins 128 25 = some (.invokestatic 106) := by decide +kernel
theorem i_Mod_codeIn_28 : zins 128 28 = some (.ifCond .eq 19) := by decide +kernel
theorem i_Mod_codeIn_31 : zins 128 31 = some (.aload_n 0) := by decide +kernel
theorem i_Mod_codeIn_32 : zins 128 32 = some (.iload_n 2) := by decide +kernel
theorem i_Mod_codeIn_33 : zins 128 33 = some (.iconst 1) := by decide +kernel
theorem i_Mod_codeIn_34 : zins 128 34 = some (.invokevirtual 149) := by decide +kernel
theorem i_Mod_codeIn_37 : zins 128 37 = some (.invokestatic 106) := by decide +kernel
theorem i_Mod_codeIn_40 : zins 128 40 = some (.ifCond .eq 7) := by decide +kernel
theorem i_Mod_codeIn_43 : zins 128 43 = some (.iconst 1) := by decide +kernel
theorem i_Mod_codeIn_44 : zins 128 44 = some (.goto 4) := by decide +kernel
theorem i_Mod_codeIn_47 : zins 128 47 = some (.iconst 0) := by decide +kernel
theorem i_Mod_codeIn_48 : zins 128 48 = some (.istore_n 3) := by decide +kernel
theorem i_Mod_codeIn_49 : zins 128 49 = some (.iload_n 3) := by decide +kernel
theorem i_Mod_codeIn_50 : zins 128 50 = some (.ifCond .eq 28) := by decide +kernel
theorem i_Mod_codeIn_53 : zins 128 53 = some (.bipush 26) := by decide +kernel
theorem i_Mod_codeIn_55 : zins 128 55 = some (.aload_n 0) := by decide +kernel
theorem i_Mod_codeIn_56 : zins 128 56 = some (.iload_n 2) := by decide +kernel
theorem i_Mod_codeIn_57 : zins 128 57 = some (.iconst 0) := by decide +kernel
theorem i_Mod_codeIn_58 : zins 128 58 = some (.invokevirtual 149) := by decide +kernel
theorem i_Mod_codeIn_61 : zins 128 61 = some (.bipush 97) := by decide +kernel
theorem i_Mod_codeIn_63 : zins 128 63 = some (.isub) := by decide +kernel
theorem i_Mod_codeIn_64 : zins 128 64 = some (.imul) := by decide +kernel
theorem i_Mod_codeIn_65 : zins 128 65 = some (.aload_n 0) := by decide +kernel
theorem i_Mod_codeIn_66 : zins 128 66 = some (.iload_n 2) := by decide +kernel
theorem i_Mod_codeIn_67 : zins 128 67 = some (.iconst 1) := by decide +kernel
theorem i_Mod_codeIn_68 : zins 128 68 = some (.invokevirtual 149) := by decide +kernel
theorem i_Mod_codeIn_71 : zins 128 71 = some (.iadd) := by decide +kernel
theorem i_Mod_codeIn_72 : zins 128 72 = some (.bipush 97) := by decide +kernel
theorem i_Mod_codeIn_74 : zins 128 74 = some (.isub) := by decide +kernel
theorem i_Mod_codeIn_75 : zins 128 75 = some (.goto 4) := by decide +kernel
theorem i_Mod_codeIn_78 : zins 128 78 = some (.iconst (-1)) := by decide +kernel
theorem i_Mod_codeIn_79 : zins 128 79 = some (.ireturn) := by decide +kernel
theorem e_Mod_codeIn (X : zX) (d : Nat) (g : zH) (ms : zMS) (cnt : Nat) (hT : mTV ms 0 cnt) (s : Nat) (hp : s < 2 ^ 30) : zR X (d + 2) 128 0 (zent 4 [.ref 129, .int (nI s)]) [] (mset g ms) (some (.int (codeF (mV ms) s)), mset g ms) := by
  have hz := fun s f r c => v_tl ms _ (mto_find hT s f r c)
  refine zr_aload_n i_Mod_codeIn_0 rfl ?_
  refine zn_iconst 0 i_Mod_codeIn_1 (by decide) ?_
  refine zr_iload_n i_Mod_codeIn_2 rfl ?_
  refine zr_iconst i_Mod_codeIn_3 (v := 1) (by decide) ?_
  refine zr_iconst i_Mod_codeIn_4 (v := 1) (by decide) ?_
  refine zr_iconst i_Mod_codeIn_5 (v := 1) (by decide) ?_
  refine zr_cv5 i_Mod_codeIn_6 rfl (by decide) rfl (Nat.le_of_ble_eq_true rfl) (Nat.le_of_ble_eq_true rfl) (e_Mod_find X _ g ms 0 cnt _ _ _ _ (by decide) hT.1 hT.2.1) ?_
  refine zr_istore_n i_Mod_codeIn_9 rfl ?_
  refine zr_aload_n i_Mod_codeIn_10 rfl ?_
  refine zr_iload_n i_Mod_codeIn_11 rfl ?_
  refine zr_cv1 i_Mod_codeIn_12 rfl (by decide) rfl (Nat.le_of_ble_eq_true rfl) (Nat.le_of_ble_eq_true rfl) (v_sizeOf X _ g ms _ (mto_find hT _ _ _ _)) ?_
  refine zn_iconst 2 i_Mod_codeIn_15 (by decide) ?_
  refine zn_icmp_ne 47 i_Mod_codeIn_16 (by decide) (by have := hz (nI s) 1 1 1; omega) (by omega) (fun c_16 => ?_) (fun c_16 => ?_)
  · skip
    refine zr_iconst i_Mod_codeIn_47 (v := 0) (by decide) ?_
    refine zr_istore_n i_Mod_codeIn_48 rfl ?_
    refine zr_iload_n i_Mod_codeIn_49 rfl ?_
    refine zr_if_eq 78 i_Mod_codeIn_50 (by decide) (fun _ => ?_) (fun q => absurd (by decide) q)
    refine zr_iconst i_Mod_codeIn_78 (v := (-1)) (by decide) ?_
    exact zR.retE i_Mod_codeIn_79 rfl (by simp [codeF, mV, *])
  · skip
    refine zr_aload_n i_Mod_codeIn_19 rfl ?_
    refine zr_iload_n i_Mod_codeIn_20 rfl ?_
    refine zn_iconst 0 i_Mod_codeIn_21 (by decide) ?_
    refine zr_cv2 i_Mod_codeIn_22 rfl (by decide) rfl (Nat.le_of_ble_eq_true rfl) (Nat.le_of_ble_eq_true rfl) (v_charOf X _ g ms _ (mto_find hT _ _ _ _) _ (by first | decide | omega)) ?_
    refine zr_cs1 i_Mod_codeIn_25 rfl (by decide) (Nat.le_of_ble_eq_true rfl) (Nat.le_of_ble_eq_true rfl) (e_Mod_small X _ _ _) ?_
    refine zB_if_eq 47 i_Mod_codeIn_28 (by decide) (fun c_28 => ?_) (fun c_28 => ?_)
    · skip
      refine zr_iconst i_Mod_codeIn_47 (v := 0) (by decide) ?_
      refine zr_istore_n i_Mod_codeIn_48 rfl ?_
      refine zr_iload_n i_Mod_codeIn_49 rfl ?_
      refine zr_if_eq 78 i_Mod_codeIn_50 (by decide) (fun _ => ?_) (fun q => absurd (by decide) q)
      refine zr_iconst i_Mod_codeIn_78 (v := (-1)) (by decide) ?_
      exact zR.retE i_Mod_codeIn_79 rfl (by simp [codeF, mV, *])
    · skip
      refine zr_aload_n i_Mod_codeIn_31 rfl ?_
      refine zr_iload_n i_Mod_codeIn_32 rfl ?_
      refine zn_iconst 1 i_Mod_codeIn_33 (by decide) ?_
      refine zr_cv2 i_Mod_codeIn_34 rfl (by decide) rfl (Nat.le_of_ble_eq_true rfl) (Nat.le_of_ble_eq_true rfl) (v_charOf X _ g ms _ (mto_find hT _ _ _ _) _ (by first | decide | omega)) ?_
      refine zr_cs1 i_Mod_codeIn_37 rfl (by decide) (Nat.le_of_ble_eq_true rfl) (Nat.le_of_ble_eq_true rfl) (e_Mod_small X _ _ _) ?_
      refine zB_if_eq 47 i_Mod_codeIn_40 (by decide) (fun c_40 => ?_) (fun c_40 => ?_)
      · skip
        refine zr_iconst i_Mod_codeIn_47 (v := 0) (by decide) ?_
        refine zr_istore_n i_Mod_codeIn_48 rfl ?_
        refine zr_iload_n i_Mod_codeIn_49 rfl ?_
        refine zr_if_eq 78 i_Mod_codeIn_50 (by decide) (fun _ => ?_) (fun q => absurd (by decide) q)
        refine zr_iconst i_Mod_codeIn_78 (v := (-1)) (by decide) ?_
        exact zR.retE i_Mod_codeIn_79 rfl (by simp [codeF, mV, *])
      · skip
        refine zr_iconst i_Mod_codeIn_43 (v := 1) (by decide) ?_
        refine zr_goto 48 i_Mod_codeIn_44 (by decide) ?_
        refine zr_istore_n i_Mod_codeIn_48 rfl ?_
        refine zr_iload_n i_Mod_codeIn_49 rfl ?_
        refine zr_if_eq 78 i_Mod_codeIn_50 (by decide) (fun q => absurd q (by decide)) (fun _ => ?_)
        refine zr_bipush i_Mod_codeIn_53 (v := 26) (by decide) ?_
        refine zr_aload_n i_Mod_codeIn_55 rfl ?_
        refine zr_iload_n i_Mod_codeIn_56 rfl ?_
        refine zn_iconst 0 i_Mod_codeIn_57 (by decide) ?_
        refine zr_cv2 i_Mod_codeIn_58 rfl (by decide) rfl (Nat.le_of_ble_eq_true rfl) (Nat.le_of_ble_eq_true rfl) (v_charOf X _ g ms _ (mto_find hT _ _ _ _) _ (by first | decide | omega)) ?_
        refine zr_bipush i_Mod_codeIn_61 (v := 97) (by decide) ?_
        refine zr_isub i_Mod_codeIn_63 ?_
        refine zr_imul i_Mod_codeIn_64 ?_
        refine zr_aload_n i_Mod_codeIn_65 rfl ?_
        refine zr_iload_n i_Mod_codeIn_66 rfl ?_
        refine zn_iconst 1 i_Mod_codeIn_67 (by decide) ?_
        refine zr_cv2 i_Mod_codeIn_68 rfl (by decide) rfl (Nat.le_of_ble_eq_true rfl) (Nat.le_of_ble_eq_true rfl) (v_charOf X _ g ms _ (mto_find hT _ _ _ _) _ (by first | decide | omega)) ?_
        refine zr_iadd i_Mod_codeIn_71 ?_
        refine zr_bipush i_Mod_codeIn_72 (v := 97) (by decide) ?_
        refine zr_isub i_Mod_codeIn_74 ?_
        refine zr_goto 79 i_Mod_codeIn_75 (by decide) ?_
        exact zR.retE i_Mod_codeIn_79 rfl (by simp [codeF, mV, *])
theorem i_Mod_kind_0 : zins 119 0 = some (.aload_n 0) := by decide +kernel
theorem i_Mod_kind_1 : zins 119 1 = some (.iconst 0) := by decide +kernel
theorem i_Mod_kind_2 : zins 119 2 = some (.iconst 1) := by decide +kernel
theorem i_Mod_kind_3 : zins 119 3 = some (.iconst 3) := by decide +kernel
theorem i_Mod_kind_4 : zins 119 4 = some (.iconst 1) := by decide +kernel
theorem i_Mod_kind_5 : zins 119 5 = some (.iconst 1) := by decide +kernel
theorem i_Mod_kind_6 : zins 119 6 = some (.invokevirtual 153) := by decide +kernel
theorem i_Mod_kind_9 : zins 119 9 = some (.istore_n 1) := by decide +kernel
theorem i_Mod_kind_10 : zins 119 10 = some (.aload_n 0) := by decide +kernel
theorem i_Mod_kind_11 : zins 119 11 = some (.iconst 0) := by decide +kernel
theorem i_Mod_kind_12 : zins 119 12 = some (.iconst 1) := by decide +kernel
theorem i_Mod_kind_13 : zins 119 13 = some (.iconst 3) := by decide +kernel
theorem i_Mod_kind_14 : zins 119 14 = some (.iconst 1) := by decide +kernel
theorem i_Mod_kind_15 : zins 119 15 = some (.iconst 2) := by decide +kernel
theorem i_Mod_kind_16 : zins 119 16 = some (.invokevirtual 153) := by decide +kernel
theorem i_Mod_kind_19 : zins 119 19 = some (.istore_n 2) := by decide +kernel
theorem i_Mod_kind_20 : zins 119 20 = some (.aload_n 0) := by decide +kernel
theorem i_Mod_kind_21 : zins 119 21 = some (.iload_n 1) := by decide +kernel
theorem i_Mod_kind_22 : zins 119 22 = some (.bipush 79) := by decide +kernel
theorem i_Mod_kind_24 : zins 119 24 = some (.bipush 82) := by decide +kernel
theorem i_Mod_kind_26 : zins 119 26 = some (.bipush 85) := by decide +kernel
theorem i_Mod_kind_28 : zins 119 28 = some (.invokevirtual 157) := by decide +kernel
theorem i_Mod_kind_31 : zins 119 31 = some (.ifCond .eq 24) := by decide +kernel
theorem i_Mod_kind_34 : zins 119 34 = some (.aload_n 0) := by decide +kernel
theorem i_Mod_kind_35 : zins 119 35 = some (.iload_n 2) := by decide +kernel
theorem i_Mod_kind_36 : zins 119 36 = some (.bipush 82) := by decide +kernel
theorem i_Mod_kind_38 : zins 119 38 = some (.bipush 48) := by decide +kernel
theorem i_Mod_kind_40 : zins 119 40 = some (.bipush 49) := by decide +kernel
theorem i_Mod_kind_42 : zins 119 42 = some (.invokevirtual 157) := by decide +kernel
theorem i_Mod_kind_45 : zins 119 45 = some (.ifCond .eq 8) := by decide +kernel
theorem i_Mod_kind_48 : zins 119 48 = some (.bipush 9) := by decide +kernel
theorem i_Mod_kind_50 : zins 119 50 = some (.goto 4) := by decide +kernel
theorem i_Mod_kind_53 : zins 119 53 = some (.iconst 0) := by decide +kernel
theorem i_Mod_kind_54 : zins 119 54 = some (.ireturn) := by decide +kernel
theorem i_Mod_kind_55 : zins 119 55 = some (.aload_n 0) := by decide +kernel
theorem i_Mod_kind_56 : zins 119 56 = some (.iload_n 1) := by decide +kernel
theorem i_Mod_kind_57 : zins 119 57 = some (.bipush 65) := by decide +kernel
theorem i_Mod_kind_59 : zins 119 59 = some (.bipush 68) := by decide +kernel
theorem i_Mod_kind_61 : zins 119 61 = some (.bipush 84) := by decide +kernel
theorem i_Mod_kind_63 : zins 119 63 = some (.invokevirtual 157) := by decide +kernel
theorem i_Mod_kind_66 : zins 119 66 = some (.ifCond .eq 38) := by decide +kernel
theorem i_Mod_kind_69 : zins 119 69 = some (.aload_n 0) := by decide +kernel
theorem i_Mod_kind_70 : zins 119 70 = some (.iload_n 2) := by decide +kernel
theorem i_Mod_kind_71 : zins 119 71 = some (.invokevirtual 145) := by decide +kernel
theorem i_Mod_kind_74 : zins 119 74 = some (.iconst 3) := by decide +kernel
theorem i_Mod_kind_75 : zins 119 75 = some (.if_icmp .ne 29) := by decide +kernel
theorem i_Mod_kind_78 : zins 119 78 = some (.aload_n 0) := by decide +kernel
theorem i_Mod_kind_79 : zins 119 79 = some (.iload_n 2) := by decide +kernel
theorem i_Mod_kind_80 : zins 119 80 = some (.iconst 0) := by decide +kernel
theorem i_Mod_kind_81 : zins 119 81 = some (.invokevirtual 149) := by decide +kernel
theorem i_Mod_kind_84 : zins 119 84 = some (.bipush 65) := by decide +kernel
theorem i_Mod_kind_86 : zins 119 86 = some (.if_icmp .ne 18) := by decide +kernel
theorem i_Mod_kind_89 : zins 119 89 = some (.aload_n 0) := by decide +kernel
theorem i_Mod_kind_90 : zins 119 90 = some (.iload_n 2) := by decide +kernel
theorem i_Mod_kind_91 : zins 119 91 = some (.iconst 1) := by decide +kernel
theorem i_Mod_kind_92 : zins 119 92 = some (.invokevirtual 149) := by decide +kernel
theorem i_Mod_kind_95 : zins 119 95 = some (.bipush 48) := by decide +kernel
theorem i_Mod_kind_97 : zins 119 97 = some (.if_icmp .ne 7) := by decide +kernel
theorem i_Mod_kind_100 : zins 119 100 = some (.iconst 1) := by decide +kernel
theorem i_Mod_kind_101 : zins 119 101 = some (.goto 4) := by decide +kernel
theorem i_Mod_kind_104 : zins 119 104 = some (.iconst 0) := by decide +kernel
theorem i_Mod_kind_105 : zins 119 105 = some (.istore_n 3) := by decide +kernel
theorem i_Mod_kind_106 : zins 119 106 = some (.aload_n 0) := by decide +kernel
theorem i_Mod_kind_107 : zins 119 107 = some (.iload_n 2) := by decide +kernel
theorem i_Mod_kind_108 : zins 119 108 = some (.iconst 2) := by decide +kernel
theorem i_Mod_kind_109 : zins 119 109 = some (.invokevirtual 149) := by decide +kernel
theorem i_Mod_kind_112 : zins 119 112 = some (.istore 4) := by decide +kernel
theorem i_Mod_kind_114 : zins 119 114 = some (.iload_n 3) := by decide +kernel
theorem i_Mod_kind_115 : zins 119 115 = some (.ifCond .eq 39) := by decide +kernel
theorem i_Mod_kind_118 : zins 119 118 = some (.iload 4) := by decide +kernel
theorem i_Mod_kind_120 : zins 119 120 = some (.bipush 49) := by decide +kernel
theorem i_Mod_kind_122 : zins 119 122 = some (.if_icmp .eq 24) := by decide +kernel
theorem i_Mod_kind_125 : zins 119 125 = some (.iload 4) := by decide +kernel
theorem i_Mod_kind_127 : zins 119 127 = some (.bipush 50) := by decide +kernel
theorem i_Mod_kind_129 : zins 119 129 = some (.if_icmp .eq 17) := by decide +kernel
theorem i_Mod_kind_132 : zins 119 132 = some (.iload 4) := by decide +kernel
theorem i_Mod_kind_134 : zins 119 134 = some (.bipush 51) := by decide +kernel
theorem i_Mod_kind_136 : zins 119 136 = some (.if_icmp .eq 10) := by decide +kernel
theorem i_Mod_kind_139 : zins 119 139 = some (.iload 4) := by decide +kernel
theorem i_Mod_kind_141 : zins 119 141 = some (.bipush 56) := by decide +kernel
theorem i_Mod_kind_143 : zins 119 143 = some (.if_icmp .ne 11) := by decide +kernel
theorem i_Mod_kind_146 : zins 119 146 = some (.iload 4) := by decide +kernel
theorem i_Mod_kind_148 : zins 119 148 = some (.bipush 48) := by decide +kernel
theorem i_Mod_kind_150 : zins 119 150 = some (.isub) := by decide +kernel
theorem i_Mod_kind_151 : zins 119 151 = some (.goto 4) := by decide +kernel
theorem i_Mod_kind_154 : zins 119 154 = some (.iconst 0) := by decide +kernel
theorem i_Mod_kind_155 : zins 119 155 = some (.ireturn) := by decide +kernel
theorem e_Mod_kind (X : zX) (d : Nat) (g : zH) (ms : zMS) (cnt : Nat) (hT : mTV ms 0 cnt) : zR X (d + 3) 119 0 (zent 5 [.ref 129]) [] (mset g ms) (some (.int (kindF (mV ms))), mset g ms) := by
  have hz := fun s f r c => v_tl ms _ (mto_find hT s f r c)
  refine zr_aload_n i_Mod_kind_0 rfl ?_
  refine zn_iconst 0 i_Mod_kind_1 (by decide) ?_
  refine zr_iconst i_Mod_kind_2 (v := 1) (by decide) ?_
  refine zr_iconst i_Mod_kind_3 (v := 3) (by decide) ?_
  refine zr_iconst i_Mod_kind_4 (v := 1) (by decide) ?_
  refine zr_iconst i_Mod_kind_5 (v := 1) (by decide) ?_
  refine zr_cv5 i_Mod_kind_6 rfl (by decide) rfl (Nat.le_of_ble_eq_true rfl) (Nat.le_of_ble_eq_true rfl) (e_Mod_find X _ g ms 0 cnt _ _ _ _ (by decide) hT.1 hT.2.1) ?_
  refine zr_istore_n i_Mod_kind_9 rfl ?_
  refine zr_aload_n i_Mod_kind_10 rfl ?_
  refine zn_iconst 0 i_Mod_kind_11 (by decide) ?_
  refine zr_iconst i_Mod_kind_12 (v := 1) (by decide) ?_
  refine zr_iconst i_Mod_kind_13 (v := 3) (by decide) ?_
  refine zr_iconst i_Mod_kind_14 (v := 1) (by decide) ?_
  refine zr_iconst i_Mod_kind_15 (v := 2) (by decide) ?_
  refine zr_cv5 i_Mod_kind_16 rfl (by decide) rfl (Nat.le_of_ble_eq_true rfl) (Nat.le_of_ble_eq_true rfl) (e_Mod_find X _ g ms 0 cnt _ _ _ _ (by decide) hT.1 hT.2.1) ?_
  refine zr_istore_n i_Mod_kind_19 rfl ?_
  refine zr_aload_n i_Mod_kind_20 rfl ?_
  refine zr_iload_n i_Mod_kind_21 rfl ?_
  refine zr_bipush i_Mod_kind_22 (v := 79) (by decide) ?_
  refine zr_bipush i_Mod_kind_24 (v := 82) (by decide) ?_
  refine zr_bipush i_Mod_kind_26 (v := 85) (by decide) ?_
  refine zr_cv4 i_Mod_kind_28 rfl (by decide) rfl (Nat.le_of_ble_eq_true rfl) (Nat.le_of_ble_eq_true rfl) (v_is X _ g ms _ (mto_find hT _ _ _ _) _ _ _) ?_
  refine zB_if_eq 55 i_Mod_kind_31 (by decide) (fun c_31 => ?_) (fun c_31 => ?_)
  · skip
    refine zr_aload_n i_Mod_kind_55 rfl ?_
    refine zr_iload_n i_Mod_kind_56 rfl ?_
    refine zr_bipush i_Mod_kind_57 (v := 65) (by decide) ?_
    refine zr_bipush i_Mod_kind_59 (v := 68) (by decide) ?_
    refine zr_bipush i_Mod_kind_61 (v := 84) (by decide) ?_
    refine zr_cv4 i_Mod_kind_63 rfl (by decide) rfl (Nat.le_of_ble_eq_true rfl) (Nat.le_of_ble_eq_true rfl) (v_is X _ g ms _ (mto_find hT _ _ _ _) _ _ _) ?_
    refine zB_if_eq 104 i_Mod_kind_66 (by decide) (fun c_66 => ?_) (fun c_66 => ?_)
    · skip
      refine zr_iconst i_Mod_kind_104 (v := 0) (by decide) ?_
      refine zr_istore_n i_Mod_kind_105 rfl ?_
      refine zr_aload_n i_Mod_kind_106 rfl ?_
      refine zr_iload_n i_Mod_kind_107 rfl ?_
      refine zn_iconst 2 i_Mod_kind_108 (by decide) ?_
      refine zr_cv2 i_Mod_kind_109 rfl (by decide) rfl (Nat.le_of_ble_eq_true rfl) (Nat.le_of_ble_eq_true rfl) (v_charOf X _ g ms _ (mto_find hT _ _ _ _) _ (by first | decide | omega)) ?_
      refine zr_istore i_Mod_kind_112 rfl ?_
      refine zr_iload_n i_Mod_kind_114 rfl ?_
      refine zr_if_eq 154 i_Mod_kind_115 (by decide) (fun _ => ?_) (fun q => absurd (by decide) q)
      refine zr_iconst i_Mod_kind_154 (v := 0) (by decide) ?_
      exact zR.retE i_Mod_kind_155 rfl (by simp [kindF, mV, *])
    · skip
      refine zr_aload_n i_Mod_kind_69 rfl ?_
      refine zr_iload_n i_Mod_kind_70 rfl ?_
      refine zr_cv1 i_Mod_kind_71 rfl (by decide) rfl (Nat.le_of_ble_eq_true rfl) (Nat.le_of_ble_eq_true rfl) (v_sizeOf X _ g ms _ (mto_find hT _ _ _ _)) ?_
      refine zn_iconst 3 i_Mod_kind_74 (by decide) ?_
      refine zn_icmp_ne 104 i_Mod_kind_75 (by decide) (by have := hz 1 3 1 2; omega) (by omega) (fun c_75 => ?_) (fun c_75 => ?_)
      · skip
        refine zr_iconst i_Mod_kind_104 (v := 0) (by decide) ?_
        refine zr_istore_n i_Mod_kind_105 rfl ?_
        refine zr_aload_n i_Mod_kind_106 rfl ?_
        refine zr_iload_n i_Mod_kind_107 rfl ?_
        refine zn_iconst 2 i_Mod_kind_108 (by decide) ?_
        refine zr_cv2 i_Mod_kind_109 rfl (by decide) rfl (Nat.le_of_ble_eq_true rfl) (Nat.le_of_ble_eq_true rfl) (v_charOf X _ g ms _ (mto_find hT _ _ _ _) _ (by first | decide | omega)) ?_
        refine zr_istore i_Mod_kind_112 rfl ?_
        refine zr_iload_n i_Mod_kind_114 rfl ?_
        refine zr_if_eq 154 i_Mod_kind_115 (by decide) (fun _ => ?_) (fun q => absurd (by decide) q)
        refine zr_iconst i_Mod_kind_154 (v := 0) (by decide) ?_
        exact zR.retE i_Mod_kind_155 rfl (by simp [kindF, mV, *])
      · skip
        refine zr_aload_n i_Mod_kind_78 rfl ?_
        refine zr_iload_n i_Mod_kind_79 rfl ?_
        refine zn_iconst 0 i_Mod_kind_80 (by decide) ?_
        refine zr_cv2 i_Mod_kind_81 rfl (by decide) rfl (Nat.le_of_ble_eq_true rfl) (Nat.le_of_ble_eq_true rfl) (v_charOf X _ g ms _ (mto_find hT _ _ _ _) _ (by first | decide | omega)) ?_
        refine zr_bipush i_Mod_kind_84 (v := 65) (by decide) ?_
        refine zr_icmp_ne 104 i_Mod_kind_86 (by decide) (fun c_86 => ?_) (fun c_86 => ?_)
        · skip
          refine zr_iconst i_Mod_kind_104 (v := 0) (by decide) ?_
          refine zr_istore_n i_Mod_kind_105 rfl ?_
          refine zr_aload_n i_Mod_kind_106 rfl ?_
          refine zr_iload_n i_Mod_kind_107 rfl ?_
          refine zn_iconst 2 i_Mod_kind_108 (by decide) ?_
          refine zr_cv2 i_Mod_kind_109 rfl (by decide) rfl (Nat.le_of_ble_eq_true rfl) (Nat.le_of_ble_eq_true rfl) (v_charOf X _ g ms _ (mto_find hT _ _ _ _) _ (by first | decide | omega)) ?_
          refine zr_istore i_Mod_kind_112 rfl ?_
          refine zr_iload_n i_Mod_kind_114 rfl ?_
          refine zr_if_eq 154 i_Mod_kind_115 (by decide) (fun _ => ?_) (fun q => absurd (by decide) q)
          refine zr_iconst i_Mod_kind_154 (v := 0) (by decide) ?_
          exact zR.retE i_Mod_kind_155 rfl (by simp [kindF, mV, *])
        · skip
          refine zr_aload_n i_Mod_kind_89 rfl ?_
          refine zr_iload_n i_Mod_kind_90 rfl ?_
          refine zn_iconst 1 i_Mod_kind_91 (by decide) ?_
          refine zr_cv2 i_Mod_kind_92 rfl (by decide) rfl (Nat.le_of_ble_eq_true rfl) (Nat.le_of_ble_eq_true rfl) (v_charOf X _ g ms _ (mto_find hT _ _ _ _) _ (by first | decide | omega)) ?_
          refine zr_bipush i_Mod_kind_95 (v := 48) (by decide) ?_
          refine zr_icmp_ne 104 i_Mod_kind_97 (by decide) (fun c_97 => ?_) (fun c_97 => ?_)
          · skip
            refine zr_iconst i_Mod_kind_104 (v := 0) (by decide) ?_
            refine zr_istore_n i_Mod_kind_105 rfl ?_
            refine zr_aload_n i_Mod_kind_106 rfl ?_
            refine zr_iload_n i_Mod_kind_107 rfl ?_
            refine zn_iconst 2 i_Mod_kind_108 (by decide) ?_
            refine zr_cv2 i_Mod_kind_109 rfl (by decide) rfl (Nat.le_of_ble_eq_true rfl) (Nat.le_of_ble_eq_true rfl) (v_charOf X _ g ms _ (mto_find hT _ _ _ _) _ (by first | decide | omega)) ?_
            refine zr_istore i_Mod_kind_112 rfl ?_
            refine zr_iload_n i_Mod_kind_114 rfl ?_
            refine zr_if_eq 154 i_Mod_kind_115 (by decide) (fun _ => ?_) (fun q => absurd (by decide) q)
            refine zr_iconst i_Mod_kind_154 (v := 0) (by decide) ?_
            exact zR.retE i_Mod_kind_155 rfl (by simp [kindF, mV, *])
          · skip
            refine zr_iconst i_Mod_kind_100 (v := 1) (by decide) ?_
            refine zr_goto 105 i_Mod_kind_101 (by decide) ?_
            refine zr_istore_n i_Mod_kind_105 rfl ?_
            refine zr_aload_n i_Mod_kind_106 rfl ?_
            refine zr_iload_n i_Mod_kind_107 rfl ?_
            refine zn_iconst 2 i_Mod_kind_108 (by decide) ?_
            refine zr_cv2 i_Mod_kind_109 rfl (by decide) rfl (Nat.le_of_ble_eq_true rfl) (Nat.le_of_ble_eq_true rfl) (v_charOf X _ g ms _ (mto_find hT _ _ _ _) _ (by first | decide | omega)) ?_
            refine zr_istore i_Mod_kind_112 rfl ?_
            refine zr_iload_n i_Mod_kind_114 rfl ?_
            refine zr_if_eq 154 i_Mod_kind_115 (by decide) (fun q => absurd q (by decide)) (fun _ => ?_)
            refine zr_iload i_Mod_kind_118 rfl ?_
            refine zr_bipush i_Mod_kind_120 (v := 49) (by decide) ?_
            refine zr_icmp_eq 146 i_Mod_kind_122 (by decide) (fun c_122 => ?_) (fun c_122 => ?_)
            · skip
              refine zr_iload i_Mod_kind_146 rfl ?_
              refine zr_bipush i_Mod_kind_148 (v := 48) (by decide) ?_
              refine zr_isub i_Mod_kind_150 ?_
              refine zr_goto 155 i_Mod_kind_151 (by decide) ?_
              exact zR.retE i_Mod_kind_155 rfl (by simp [kindF, mV, *])
            · skip
              refine zr_iload i_Mod_kind_125 rfl ?_
              refine zr_bipush i_Mod_kind_127 (v := 50) (by decide) ?_
              refine zr_icmp_eq 146 i_Mod_kind_129 (by decide) (fun c_129 => ?_) (fun c_129 => ?_)
              · skip
                refine zr_iload i_Mod_kind_146 rfl ?_
                refine zr_bipush i_Mod_kind_148 (v := 48) (by decide) ?_
                refine zr_isub i_Mod_kind_150 ?_
                refine zr_goto 155 i_Mod_kind_151 (by decide) ?_
                exact zR.retE i_Mod_kind_155 rfl (by simp [kindF, mV, *])
              · skip
                refine zr_iload i_Mod_kind_132 rfl ?_
                refine zr_bipush i_Mod_kind_134 (v := 51) (by decide) ?_
                refine zr_icmp_eq 146 i_Mod_kind_136 (by decide) (fun c_136 => ?_) (fun c_136 => ?_)
                · skip
                  refine zr_iload i_Mod_kind_146 rfl ?_
                  refine zr_bipush i_Mod_kind_148 (v := 48) (by decide) ?_
                  refine zr_isub i_Mod_kind_150 ?_
                  refine zr_goto 155 i_Mod_kind_151 (by decide) ?_
                  exact zR.retE i_Mod_kind_155 rfl (by simp [kindF, mV, *])
                · skip
                  refine zr_iload i_Mod_kind_139 rfl ?_
                  refine zr_bipush i_Mod_kind_141 (v := 56) (by decide) ?_
                  refine zr_icmp_ne 154 i_Mod_kind_143 (by decide) (fun c_143 => ?_) (fun c_143 => ?_)
                  · skip
                    refine zr_iconst i_Mod_kind_154 (v := 0) (by decide) ?_
                    exact zR.retE i_Mod_kind_155 rfl (by simp [kindF, mV, *])
                  · skip
                    refine zr_iload i_Mod_kind_146 rfl ?_
                    refine zr_bipush i_Mod_kind_148 (v := 48) (by decide) ?_
                    refine zr_isub i_Mod_kind_150 ?_
                    refine zr_goto 155 i_Mod_kind_151 (by decide) ?_
                    exact zR.retE i_Mod_kind_155 rfl (by simp [kindF, mV, *])
  · skip
    refine zr_aload_n i_Mod_kind_34 rfl ?_
    refine zr_iload_n i_Mod_kind_35 rfl ?_
    refine zr_bipush i_Mod_kind_36 (v := 82) (by decide) ?_
    refine zr_bipush i_Mod_kind_38 (v := 48) (by decide) ?_
    refine zr_bipush i_Mod_kind_40 (v := 49) (by decide) ?_
    refine zr_cv4 i_Mod_kind_42 rfl (by decide) rfl (Nat.le_of_ble_eq_true rfl) (Nat.le_of_ble_eq_true rfl) (v_is X _ g ms _ (mto_find hT _ _ _ _) _ _ _) ?_
    refine zB_if_eq 53 i_Mod_kind_45 (by decide) (fun c_45 => ?_) (fun c_45 => ?_)
    · skip
      refine zr_iconst i_Mod_kind_53 (v := 0) (by decide) ?_
      exact zR.retE i_Mod_kind_54 rfl (by simp [kindF, mV, *])
    · skip
      refine zr_bipush i_Mod_kind_48 (v := 9) (by decide) ?_
      refine zr_goto 54 i_Mod_kind_50 (by decide) ?_
      exact zR.retE i_Mod_kind_54 rfl (by simp [kindF, mV, *])
def vlod (c : Int32) : Bool := zcap c || zsml c || zdig c
def vidL (t : zT) (i k : Nat) (ok : Bool) : Bool := match k with
  | 0 => ok
  | k + 1 => vidL t (i + 1) k (ok && vlod (tc t i))
def idF (V : Int32 → Int32 → Int32 → Int32 → zT) : Bool := vidL (V 1 2 1 1) 0 (tl (V 1 2 1 1)) (!decide (tl (V 1 2 1 1) < 1) && !decide (6 < tl (V 1 2 1 1)))
theorem i_Mod_hasIdentity_0 : zins 114 0 = some (.aload_n 0) := by decide +kernel
theorem i_Mod_hasIdentity_1 : zins 114 1 = some (.iconst 0) := by decide +kernel
theorem i_Mod_hasIdentity_2 : zins 114 2 = some (.iconst 1) := by decide +kernel
theorem i_Mod_hasIdentity_3 : zins 114 3 = some (.iconst 2) := by decide +kernel
theorem i_Mod_hasIdentity_4 : zins 114 4 = some (.iconst 1) := by decide +kernel
theorem i_Mod_hasIdentity_5 : zins 114 5 = some (.iconst 1) := by decide +kernel
theorem i_Mod_hasIdentity_6 : zins 114 6 = some (.invokevirtual 153) := by decide +kernel
theorem i_Mod_hasIdentity_9 : zins 114 9 = some (.istore_n 1) := by decide +kernel
theorem i_Mod_hasIdentity_10 : zins 114 10 = some (.aload_n 0) := by decide +kernel
theorem i_Mod_hasIdentity_11 : zins 114 11 = some (.iload_n 1) := by decide +kernel
theorem i_Mod_hasIdentity_12 : zins 114 12 = some (.invokevirtual 145) := by decide +kernel
theorem i_Mod_hasIdentity_15 : zins 114 15 = some (.iconst 1) := by decide +kernel
theorem i_Mod_hasIdentity_16 : zins 114 16 = some (.if_icmp .lt 17) := by decide +kernel
theorem i_Mod_hasIdentity_19 : zins 114 19 = some (.aload_n 0) := by decide +kernel
theorem i_Mod_hasIdentity_20 : zins 114 20 = some (.iload_n 1) := by decide +kernel
theorem i_Mod_hasIdentity_21 : zins 114 21 = some (.invokevirtual 145) := by decide +kernel
theorem i_Mod_hasIdentity_24 : zins 114 24 = some (.bipush 6) := by decide +kernel
theorem i_Mod_hasIdentity_26 : zins 114 26 = some (.if_icmp .gt 7) := by decide +kernel
theorem i_Mod_hasIdentity_29 : zins 114 29 = some (.iconst 1) := by decide +kernel
theorem i_Mod_hasIdentity_30 : zins 114 30 = some (.goto 4) := by decide +kernel
theorem i_Mod_hasIdentity_33 : zins 114 33 = some (.iconst 0) := by decide +kernel
theorem i_Mod_hasIdentity_34 : zins 114 34 = some (.istore_n 2) := by decide +kernel
theorem i_Mod_hasIdentity_35 : zins 114 35 = some (.iconst 0) := by decide +kernel
theorem i_Mod_hasIdentity_36 : zins 114 36 = some (.istore_n 3) := by decide +kernel
theorem i_Mod_hasIdentity_37 : zins 114 37 = some (.iload_n 3) := by decide +kernel
theorem i_Mod_hasIdentity_38 : zins 114 38 = some (.aload_n 0) := by decide +kernel
theorem i_Mod_hasIdentity_39 : zins 114 39 = some (.iload_n 1) := by decide +kernel
theorem i_Mod_hasIdentity_40 : zins 114 40 = some (.invokevirtual 145) := by decide +kernel
theorem i_Mod_hasIdentity_43 : zins 114 43 = some (.if_icmp .ge 51) := by decide +kernel
theorem i_Mod_hasIdentity_46 : zins 114 46 = some (.aload_n 0) := by decide +kernel
theorem i_Mod_hasIdentity_47 : zins 114 47 = some (.iload_n 1) := by decide +kernel
theorem i_Mod_hasIdentity_48 : zins 114 48 = some (.iload_n 3) := by decide +kernel
theorem i_Mod_hasIdentity_49 : zins 114 49 = some (.invokevirtual 149) := by decide +kernel
theorem i_Mod_hasIdentity_52 : zins 114 52 = some (.istore 4) := by decide +kernel
theorem i_Mod_hasIdentity_54 : zins 114 54 = some (.iload_n 2) := by decide +kernel
theorem i_Mod_hasIdentity_55 : zins 114 55 = some (.ifCond .eq 31) := by decide +kernel
theorem i_Mod_hasIdentity_58 : zins 114 58 = some (.iload 4) := by decide +kernel
theorem i_Mod_hasIdentity_60 : zins 114 60 = some (.invokestatic 102) := by decide +kernel
theorem i_Mod_hasIdentity_63 : zins 114 63 = some (.ifCond .ne 19) := by decide +kernel
theorem i_Mod_hasIdentity_66 : zins 114 66 = some (.iload 4) := by decide +kernel
theorem i_Mod_hasIdentity_68 : zins 114 68 = some (.invokestatic 106) := by decide +kernel
theorem i_Mod_hasIdentity_71 : zins 114 71 = some (.ifCond .ne 11) := by decide +kernel
theorem i_Mod_hasIdentity_74 : zins 114 74 = some (.iload 4) := by decide +kernel
theorem i_Mod_hasIdentity_76 : zins 114 76 = some (.invokestatic 109) := by decide +kernel
theorem i_Mod_hasIdentity_79 : zins 114 79 = some (.ifCond .eq 7) := by decide +kernel
theorem i_Mod_hasIdentity_82 : zins 114 82 = some (.iconst 1) := by decide +kernel
theorem i_Mod_hasIdentity_83 : zins 114 83 = some (.goto 4) := by decide +kernel
theorem i_Mod_hasIdentity_86 : zins 114 86 = some (.iconst 0) := by decide +kernel
theorem i_Mod_hasIdentity_87 : zins 114 87 = some (.istore_n 2) := by decide +kernel
theorem i_Mod_hasIdentity_88 : zins 114 88 = some (.iinc 3 1) := by decide +kernel
theorem i_Mod_hasIdentity_91 : zins 114 91 = some (.goto (-54)) := by decide +kernel
theorem i_Mod_hasIdentity_94 : zins 114 94 = some (.iload_n 2) := by decide +kernel
theorem i_Mod_hasIdentity_95 : zins 114 95 = some (.ireturn) := by decide +kernel
theorem l_Mod_hasIdentity (X : zX) (d : Nat) (g : zH) (ms : zMS) (cnt : Nat) (hT : mTV ms 0 cnt) : ∀ (k i : Nat) (ok : Bool) (x : Option Value), i + k = tl (mV ms 1 2 1 1) → zR X (d + 2) 114 37 [some (.ref 129), some (.int (tI (mfind ms 0 1 2 1 1))), some (.int (zb ok)), some (.int (nI i)), x] [] (mset g ms) (some (.int (zb (vidL (mV ms 1 2 1 1) i k ok))), mset g ms) := by
  have hz := fun s f r c => v_tl ms _ (mto_find hT s f r c)
  have hL : tl (mV ms 1 2 1 1) ≤ 400 := hz 1 2 1 1
  intro k
  induction k with
  | zero =>
    intro i ok x hik
    have hik : i + 0 = tl (mtx ms (mfind ms 0 1 2 1 1)) := hik
    refine zr_iload_n i_Mod_hasIdentity_37 rfl ?_
    refine zr_aload_n i_Mod_hasIdentity_38 rfl ?_
    refine zr_iload_n i_Mod_hasIdentity_39 rfl ?_
    refine zr_cv1 i_Mod_hasIdentity_40 rfl (by decide) rfl (Nat.le_of_ble_eq_true rfl) (Nat.le_of_ble_eq_true rfl) (v_sizeOf X _ g ms _ (mto_find hT _ _ _ _)) ?_
    refine zn_icmp_ge 94 i_Mod_hasIdentity_43 (by decide) (by have := hz 1 2 1 1; omega) (by have := hz 1 2 1 1; omega) (fun c_43 => ?_) (fun q => absurd q (by first | assumption | omega | simp_all))
    refine zr_iload_n i_Mod_hasIdentity_94 rfl ?_
    exact zR.retE i_Mod_hasIdentity_95 (zretB _) rfl
  | succ k ih =>
    intro i ok x hik
    have hik' : i + (k + 1) = tl (mtx ms (mfind ms 0 1 2 1 1)) := hik
    refine zr_iload_n i_Mod_hasIdentity_37 rfl ?_
    refine zr_aload_n i_Mod_hasIdentity_38 rfl ?_
    refine zr_iload_n i_Mod_hasIdentity_39 rfl ?_
    refine zr_cv1 i_Mod_hasIdentity_40 rfl (by decide) rfl (Nat.le_of_ble_eq_true rfl) (Nat.le_of_ble_eq_true rfl) (v_sizeOf X _ g ms _ (mto_find hT _ _ _ _)) ?_
    refine zn_icmp_ge 94 i_Mod_hasIdentity_43 (by decide) (by have := hz 1 2 1 1; omega) (by have := hz 1 2 1 1; omega) (fun q => absurd q (by first | assumption | omega | simp_all)) (fun c_43 => ?_)
    refine zr_aload_n i_Mod_hasIdentity_46 rfl ?_
    refine zr_iload_n i_Mod_hasIdentity_47 rfl ?_
    refine zr_iload_n i_Mod_hasIdentity_48 rfl ?_
    refine zr_cv2 i_Mod_hasIdentity_49 rfl (by decide) rfl (Nat.le_of_ble_eq_true rfl) (Nat.le_of_ble_eq_true rfl) (v_charOf X _ g ms _ (mto_find hT _ _ _ _) _ (by first | decide | omega)) ?_
    refine zr_istore i_Mod_hasIdentity_52 rfl ?_
    refine zr_iload_n i_Mod_hasIdentity_54 rfl ?_
    refine zB_if_eq 86 i_Mod_hasIdentity_55 (by decide) (fun c_55 => ?_) (fun c_55 => ?_)
    · skip
      refine zr_iconst i_Mod_hasIdentity_86 (v := 0) (by decide) ?_
      refine zr_istore_n i_Mod_hasIdentity_87 rfl ?_
      refine zn_iinc i_Mod_hasIdentity_88 rfl rfl ?_
      refine zr_goto 37 i_Mod_hasIdentity_91 (by decide) ?_
      (rw [vidL]; have e : (ok && vlod (tc (mV ms 1 2 1 1) i)) = false := by simp [vlod, mV, *]
       rw [e]; exact ih (i + 1) false _ (by omega))
    · skip
      refine zr_iload i_Mod_hasIdentity_58 rfl ?_
      refine zr_cs1 i_Mod_hasIdentity_60 rfl (by decide) (Nat.le_of_ble_eq_true rfl) (Nat.le_of_ble_eq_true rfl) (e_Mod_capital X _ _ _) ?_
      refine zB_if_ne 82 i_Mod_hasIdentity_63 (by decide) (fun c_63 => ?_) (fun c_63 => ?_)
      · skip
        refine zr_iconst i_Mod_hasIdentity_82 (v := 1) (by decide) ?_
        refine zr_goto 87 i_Mod_hasIdentity_83 (by decide) ?_
        refine zr_istore_n i_Mod_hasIdentity_87 rfl ?_
        refine zn_iinc i_Mod_hasIdentity_88 rfl rfl ?_
        refine zr_goto 37 i_Mod_hasIdentity_91 (by decide) ?_
        (rw [vidL]; have e : (ok && vlod (tc (mV ms 1 2 1 1) i)) = true := by simp [vlod, mV, *]
         rw [e]; exact ih (i + 1) true _ (by omega))
      · skip
        refine zr_iload i_Mod_hasIdentity_66 rfl ?_
        refine zr_cs1 i_Mod_hasIdentity_68 rfl (by decide) (Nat.le_of_ble_eq_true rfl) (Nat.le_of_ble_eq_true rfl) (e_Mod_small X _ _ _) ?_
        refine zB_if_ne 82 i_Mod_hasIdentity_71 (by decide) (fun c_71 => ?_) (fun c_71 => ?_)
        · skip
          refine zr_iconst i_Mod_hasIdentity_82 (v := 1) (by decide) ?_
          refine zr_goto 87 i_Mod_hasIdentity_83 (by decide) ?_
          refine zr_istore_n i_Mod_hasIdentity_87 rfl ?_
          refine zn_iinc i_Mod_hasIdentity_88 rfl rfl ?_
          refine zr_goto 37 i_Mod_hasIdentity_91 (by decide) ?_
          (rw [vidL]; have e : (ok && vlod (tc (mV ms 1 2 1 1) i)) = true := by simp [vlod, mV, *]
           rw [e]; exact ih (i + 1) true _ (by omega))
        · skip
          refine zr_iload i_Mod_hasIdentity_74 rfl ?_
          refine zr_cs1 i_Mod_hasIdentity_76 rfl (by decide) (Nat.le_of_ble_eq_true rfl) (Nat.le_of_ble_eq_true rfl) (e_Mod_digit X _ _ _) ?_
          refine zB_if_eq 86 i_Mod_hasIdentity_79 (by decide) (fun c_79 => ?_) (fun c_79 => ?_)
          · skip
            refine zr_iconst i_Mod_hasIdentity_86 (v := 0) (by decide) ?_
            refine zr_istore_n i_Mod_hasIdentity_87 rfl ?_
            refine zn_iinc i_Mod_hasIdentity_88 rfl rfl ?_
            refine zr_goto 37 i_Mod_hasIdentity_91 (by decide) ?_
            (rw [vidL]; have e : (ok && vlod (tc (mV ms 1 2 1 1) i)) = false := by simp [vlod, mV, *]
             rw [e]; exact ih (i + 1) false _ (by omega))
          · skip
            refine zr_iconst i_Mod_hasIdentity_82 (v := 1) (by decide) ?_
            refine zr_goto 87 i_Mod_hasIdentity_83 (by decide) ?_
            refine zr_istore_n i_Mod_hasIdentity_87 rfl ?_
            refine zn_iinc i_Mod_hasIdentity_88 rfl rfl ?_
            refine zr_goto 37 i_Mod_hasIdentity_91 (by decide) ?_
            (rw [vidL]; have e : (ok && vlod (tc (mV ms 1 2 1 1) i)) = true := by simp [vlod, mV, *]
             rw [e]; exact ih (i + 1) true _ (by omega))
theorem e_Mod_hasIdentity (X : zX) (d : Nat) (g : zH) (ms : zMS) (cnt : Nat) (hT : mTV ms 0 cnt) : zR X (d + 2) 114 0 (zent 5 [.ref 129]) [] (mset g ms) (some (.int (zb (idF (mV ms)))), mset g ms) := by
  have hz := fun s f r c => v_tl ms _ (mto_find hT s f r c)
  refine zr_aload_n i_Mod_hasIdentity_0 rfl ?_
  refine zn_iconst 0 i_Mod_hasIdentity_1 (by decide) ?_
  refine zr_iconst i_Mod_hasIdentity_2 (v := 1) (by decide) ?_
  refine zr_iconst i_Mod_hasIdentity_3 (v := 2) (by decide) ?_
  refine zr_iconst i_Mod_hasIdentity_4 (v := 1) (by decide) ?_
  refine zr_iconst i_Mod_hasIdentity_5 (v := 1) (by decide) ?_
  refine zr_cv5 i_Mod_hasIdentity_6 rfl (by decide) rfl (Nat.le_of_ble_eq_true rfl) (Nat.le_of_ble_eq_true rfl) (e_Mod_find X _ g ms 0 cnt _ _ _ _ (by decide) hT.1 hT.2.1) ?_
  refine zr_istore_n i_Mod_hasIdentity_9 rfl ?_
  refine zr_aload_n i_Mod_hasIdentity_10 rfl ?_
  refine zr_iload_n i_Mod_hasIdentity_11 rfl ?_
  refine zr_cv1 i_Mod_hasIdentity_12 rfl (by decide) rfl (Nat.le_of_ble_eq_true rfl) (Nat.le_of_ble_eq_true rfl) (v_sizeOf X _ g ms _ (mto_find hT _ _ _ _)) ?_
  refine zn_iconst 1 i_Mod_hasIdentity_15 (by decide) ?_
  refine zn_icmp_lt 33 i_Mod_hasIdentity_16 (by decide) (by have := hz 1 2 1 1; omega) (by have := hz 1 2 1 1; omega) (fun c_16 => ?_) (fun c_16 => ?_)
  · skip
    refine zr_iconst i_Mod_hasIdentity_33 (v := 0) (by decide) ?_
    refine zr_istore_n i_Mod_hasIdentity_34 rfl ?_
    refine zn_iconst 0 i_Mod_hasIdentity_35 (by decide) ?_
    refine zr_istore_n i_Mod_hasIdentity_36 rfl ?_
    (unfold idF; have e : (!decide (tl (mtx ms (mfind ms 0 1 2 1 1)) < 1) && !decide (6 < tl (mtx ms (mfind ms 0 1 2 1 1)))) = false := (by first | (rw [decide_eq_true (p := tl (mtx ms (mfind ms 0 1 2 1 1)) < 1) (by omega)]; rfl) | (rw [decide_eq_false (p := tl (mtx ms (mfind ms 0 1 2 1 1)) < 1) (by omega), decide_eq_true (p := 6 < tl (mtx ms (mfind ms 0 1 2 1 1))) (by omega)]; rfl))
     rw [show (!decide (tl (mV ms 1 2 1 1) < 1) && !decide (6 < tl (mV ms 1 2 1 1))) = false from e]; exact l_Mod_hasIdentity X d g ms cnt hT (tl (mV ms 1 2 1 1)) 0 false none (by omega))
  · skip
    refine zr_aload_n i_Mod_hasIdentity_19 rfl ?_
    refine zr_iload_n i_Mod_hasIdentity_20 rfl ?_
    refine zr_cv1 i_Mod_hasIdentity_21 rfl (by decide) rfl (Nat.le_of_ble_eq_true rfl) (Nat.le_of_ble_eq_true rfl) (v_sizeOf X _ g ms _ (mto_find hT _ _ _ _)) ?_
    refine zn_bipush 6 i_Mod_hasIdentity_24 (by decide) ?_
    refine zn_icmp_gt 33 i_Mod_hasIdentity_26 (by decide) (by have := hz 1 2 1 1; omega) (by have := hz 1 2 1 1; omega) (fun c_26 => ?_) (fun c_26 => ?_)
    · skip
      refine zr_iconst i_Mod_hasIdentity_33 (v := 0) (by decide) ?_
      refine zr_istore_n i_Mod_hasIdentity_34 rfl ?_
      refine zn_iconst 0 i_Mod_hasIdentity_35 (by decide) ?_
      refine zr_istore_n i_Mod_hasIdentity_36 rfl ?_
      (unfold idF; have e : (!decide (tl (mtx ms (mfind ms 0 1 2 1 1)) < 1) && !decide (6 < tl (mtx ms (mfind ms 0 1 2 1 1)))) = false := (by first | (rw [decide_eq_true (p := tl (mtx ms (mfind ms 0 1 2 1 1)) < 1) (by omega)]; rfl) | (rw [decide_eq_false (p := tl (mtx ms (mfind ms 0 1 2 1 1)) < 1) (by omega), decide_eq_true (p := 6 < tl (mtx ms (mfind ms 0 1 2 1 1))) (by omega)]; rfl))
       rw [show (!decide (tl (mV ms 1 2 1 1) < 1) && !decide (6 < tl (mV ms 1 2 1 1))) = false from e]; exact l_Mod_hasIdentity X d g ms cnt hT (tl (mV ms 1 2 1 1)) 0 false none (by omega))
    · skip
      refine zr_iconst i_Mod_hasIdentity_29 (v := 1) (by decide) ?_
      refine zr_goto 34 i_Mod_hasIdentity_30 (by decide) ?_
      refine zr_istore_n i_Mod_hasIdentity_34 rfl ?_
      refine zn_iconst 0 i_Mod_hasIdentity_35 (by decide) ?_
      refine zr_istore_n i_Mod_hasIdentity_36 rfl ?_
      (unfold idF; have e : (!decide (tl (mtx ms (mfind ms 0 1 2 1 1)) < 1) && !decide (6 < tl (mtx ms (mfind ms 0 1 2 1 1)))) = true := (by rw [decide_eq_false (p := tl (mtx ms (mfind ms 0 1 2 1 1)) < 1) (by omega), decide_eq_false (p := 6 < tl (mtx ms (mfind ms 0 1 2 1 1))) (by omega)]; rfl)
       rw [show (!decide (tl (mV ms 1 2 1 1) < 1) && !decide (6 < tl (mV ms 1 2 1 1))) = true from e]; exact l_Mod_hasIdentity X d g ms cnt hT (tl (mV ms 1 2 1 1)) 0 true none (by omega))
theorem i_Mod_whoIsIn_0 : zins 126 0 = some (.iconst 0) := by decide +kernel
theorem i_Mod_whoIsIn_1 : zins 126 1 = some (.istore_n 2) := by decide +kernel
theorem i_Mod_whoIsIn_2 : zins 126 2 = some (.iconst 1) := by decide +kernel
theorem i_Mod_whoIsIn_3 : zins 126 3 = some (.istore_n 3) := by decide +kernel
theorem i_Mod_whoIsIn_4 : zins 126 4 = some (.iload_n 3) := by decide +kernel
theorem i_Mod_whoIsIn_5 : zins 126 5 = some (.bipush 100) := by decide +kernel
theorem i_Mod_whoIsIn_7 : zins 126 7 = some (.if_icmp .ge 25) := by decide +kernel
theorem i_Mod_whoIsIn_10 : zins 126 10 = some (.aload_n 0) := by decide +kernel
theorem i_Mod_whoIsIn_11 : zins 126 11 = some (.getfield 66) := by decide +kernel
theorem i_Mod_whoIsIn_14 : zins 126 14 = some (.iload_n 3) := by decide +kernel
theorem i_Mod_whoIsIn_15 : zins 126 15 = some (.iaload) := by decide +kernel
theorem i_Mod_whoIsIn_16 : zins 126 16 = some (.iload_n 1) := by decide +kernel
theorem i_Mod_whoIsIn_17 : zins 126 17 = some (.if_icmp .ne 7) := by decide +kernel
theorem i_Mod_whoIsIn_20 : zins 126 20 = some (.iload_n 3) := by decide +kernel
theorem i_Mod_whoIsIn_21 : zins 126 21 = some (.goto 4) := by decide +kernel
theorem i_Mod_whoIsIn_24 : zins 126 24 = some (.iload_n 2) := by decide +kernel
theorem i_Mod_whoIsIn_25 : zins 126 25 = some (.istore_n 2) := by decide +kernel
theorem i_Mod_whoIsIn_26 : zins 126 26 = some (.iinc 3 1) := by decide +kernel
theorem i_Mod_whoIsIn_29 : zins 126 29 = some (.goto (-25)) := by decide +kernel
theorem i_Mod_whoIsIn_32 : zins 126 32 = some (.iload_n 2) := by decide +kernel
theorem i_Mod_whoIsIn_33 : zins 126 33 = some (.ireturn) := by decide +kernel
def whoL (b : Nat → Int32) (bed : Int32) (i k w : Nat) : Nat := match k with
  | 0 => w
  | k + 1 => whoL b bed (i + 1) k (if b i = bed then i else w)
def whoF (b : Nat → Int32) (bed : Int32) : Nat := whoL b bed 1 99 0
theorem l_Mod_whoIsIn (X : zX) (d : Nat) (g : zH) (ms : zMS) (bed : Int32) : ∀ (k i w : Nat), i + k = 100 → zR X d 126 4 [some (.ref 129), some (.int bed), some (.int (nI w)), some (.int (nI i))] [] (mset g ms) (some (.int (nI (whoL (ms.2 19) bed i k w))), mset g ms) := by
  intro k
  induction k with
  | zero =>
    intro i w hik
    refine zr_iload_n i_Mod_whoIsIn_4 rfl ?_
    refine zn_bipush 100 i_Mod_whoIsIn_5 (by decide) ?_
    refine zn_icmp_ge 32 i_Mod_whoIsIn_7 (by decide) (by omega) (by omega) (fun c_7 => ?_) (fun q => absurd q (by first | assumption | omega | simp_all))
    refine zr_iload_n i_Mod_whoIsIn_32 rfl ?_
    exact zR.retE i_Mod_whoIsIn_33 rfl rfl
  | succ k ih =>
    intro i w hik
    refine zr_iload_n i_Mod_whoIsIn_4 rfl ?_
    refine zn_bipush 100 i_Mod_whoIsIn_5 (by decide) ?_
    refine zn_icmp_ge 32 i_Mod_whoIsIn_7 (by decide) (by omega) (by omega) (fun q => absurd q (by first | assumption | omega | simp_all)) (fun c_7 => ?_)
    refine zr_aload_n i_Mod_whoIsIn_10 rfl ?_
    refine zr_getf i_Mod_whoIsIn_11 rfl rfl rfl ?_
    refine zr_iload_n i_Mod_whoIsIn_14 rfl ?_
    refine zn_iaload i_Mod_whoIsIn_15 rfl (by omega) (by decide) ?_
    refine zr_iload_n i_Mod_whoIsIn_16 rfl ?_
    refine zr_icmp_ne 24 i_Mod_whoIsIn_17 (by decide) (fun c_17 => ?_) (fun c_17 => ?_)
    · skip
      refine zr_iload_n i_Mod_whoIsIn_24 rfl ?_
      refine zr_istore_n i_Mod_whoIsIn_25 rfl ?_
      refine zn_iinc i_Mod_whoIsIn_26 rfl rfl ?_
      refine zr_goto 4 i_Mod_whoIsIn_29 (by decide) ?_
      (rw [whoL]; first | (rw [if_pos (by assumption)]; exact ih (i + 1) _ (by omega)) | (rw [if_neg (by assumption)]; exact ih (i + 1) _ (by omega)))
    · skip
      refine zr_iload_n i_Mod_whoIsIn_20 rfl ?_
      refine zr_goto 25 i_Mod_whoIsIn_21 (by decide) ?_
      refine zr_istore_n i_Mod_whoIsIn_25 rfl ?_
      refine zn_iinc i_Mod_whoIsIn_26 rfl rfl ?_
      refine zr_goto 4 i_Mod_whoIsIn_29 (by decide) ?_
      (rw [whoL]; first | (rw [if_pos (by assumption)]; exact ih (i + 1) _ (by omega)) | (rw [if_neg (by assumption)]; exact ih (i + 1) _ (by omega)))
theorem e_Mod_whoIsIn (X : zX) (d : Nat) (g : zH) (ms : zMS) (bed : Int32) : zR X d 126 0 (zent 4 [.ref 129, .int bed]) [] (mset g ms) (some (.int (nI (whoF (ms.2 19) bed))), mset g ms) := by
  refine zn_iconst 0 i_Mod_whoIsIn_0 (by decide) ?_
  refine zr_istore_n i_Mod_whoIsIn_1 rfl ?_
  refine zn_iconst 1 i_Mod_whoIsIn_2 (by decide) ?_
  refine zr_istore_n i_Mod_whoIsIn_3 rfl ?_
  exact l_Mod_whoIsIn X d g ms bed 99 1 0 rfl
theorem i_Mod_repetitions_0 : zins 129 0 = some (.iconst 1) := by decide +kernel
theorem i_Mod_repetitions_1 : zins 129 1 = some (.istore_n 2) := by decide +kernel
theorem i_Mod_repetitions_2 : zins 129 2 = some (.aload_n 0) := by decide +kernel
theorem i_Mod_repetitions_3 : zins 129 3 = some (.iconst 0) := by decide +kernel
theorem i_Mod_repetitions_4 : zins 129 4 = some (.iload_n 1) := by decide +kernel
theorem i_Mod_repetitions_5 : zins 129 5 = some (.iconst 2) := by decide +kernel
theorem i_Mod_repetitions_6 : zins 129 6 = some (.iload_n 2) := by decide +kernel
theorem i_Mod_repetitions_7 : zins 129 7 = some (.iconst 1) := by decide +kernel
theorem i_Mod_repetitions_8 : zins 129 8 = some (.iadd) := by decide +kernel
theorem i_Mod_repetitions_9 : zins 129 9 = some (.iconst 1) := by decide +kernel
theorem i_Mod_repetitions_10 : zins 129 10 = some (.invokevirtual 153) := by decide +kernel
theorem i_Mod_repetitions_13 : zins 129 13 = some (.ifCond .lt 9) := by decide +kernel
theorem i_Mod_repetitions_16 : zins 129 16 = some (.iinc 2 1) := by decide +kernel
theorem i_Mod_repetitions_19 : zins 129 19 = some (.goto (-17)) := by decide +kernel
theorem i_Mod_repetitions_22 : zins 129 22 = some (.iload_n 2) := by decide +kernel
theorem i_Mod_repetitions_23 : zins 129 23 = some (.ireturn) := by decide +kernel
def repL (V : Int32 → Int32 → Int32 → Int32 → zT) (s : Int32) (n k : Nat) : Nat := match k with
  | 0 => n
  | k + 1 => if V s 2 (nI (n + 1)) 1 = none then n else repL V s (n + 1) k
def repF (V : Int32 → Int32 → Int32 → Int32 → zT) (s : Nat) : Nat := repL V (nI s) 1 220
theorem repL_le (V : Int32 → Int32 → Int32 → Int32 → zT) (s : Int32) : ∀ k n, n ≤ repL V s n k ∧ repL V s n k ≤ n + k := by
  intro k
  induction k with
  | zero => intro n; exact ⟨Nat.le_refl _, Nat.le_refl _⟩
  | succ k ih =>
    intro n
    rw [repL]
    split
    · omega
    · have := ih (n + 1); omega
theorem mfind_lt {ms : zMS} {cnt : Nat} (h : mTV ms 0 cnt) {s f r c : Int32} : ∀ k, mfind ms 0 s f r c = some k → k < 2 ^ 31 := by
  intro k e
  unfold mfind at e
  rw [h.1, nI_clamp (by have := h.2.1; omega)] at e
  have := zfst_some e
  have := h.2.1
  omega
theorem l_Mod_repetitions (X : zX) (d : Nat) (g : zH) (ms : zMS) (cnt : Nat) (hT : mTV ms 0 cnt) (hR : ∀ s : Nat, mfind ms 0 (nI s) 2 (nI 222) 1 = none) (s : Nat) : ∀ (k n : Nat), n + k = 221 → zR X (d + 1) 129 2 [some (.ref 129), some (.int (nI s)), some (.int (nI n))] [] (mset g ms) (some (.int (nI (repL (mV ms) (nI s) n k))), mset g ms) := by
  intro k
  induction k with
  | zero =>
    intro n hik
    refine zr_aload_n i_Mod_repetitions_2 rfl ?_
    refine zn_iconst 0 i_Mod_repetitions_3 (by decide) ?_
    refine zr_iload_n i_Mod_repetitions_4 rfl ?_
    refine zr_iconst i_Mod_repetitions_5 (v := 2) (by decide) ?_
    refine zr_iload_n i_Mod_repetitions_6 rfl ?_
    refine zn_iconst 1 i_Mod_repetitions_7 (by decide) ?_
    refine zn_iadd i_Mod_repetitions_8 ?_
    refine zr_iconst i_Mod_repetitions_9 (v := 1) (by decide) ?_
    refine zr_cv5 i_Mod_repetitions_10 rfl (by decide) rfl (Nat.le_of_ble_eq_true rfl) (Nat.le_of_ble_eq_true rfl) (e_Mod_find X _ g ms 0 cnt _ _ _ _ (by decide) hT.1 hT.2.1) ?_
    refine zT_if_lt 22 i_Mod_repetitions_13 (by decide) (mfind_lt hT) (fun _ => ?_) (fun q => absurd q (by rw [show n = 221 by omega, hR]; decide))
    refine zr_iload_n i_Mod_repetitions_22 rfl ?_
    exact zR.retE i_Mod_repetitions_23 rfl rfl
  | succ k ih =>
    intro n hik
    refine zr_aload_n i_Mod_repetitions_2 rfl ?_
    refine zn_iconst 0 i_Mod_repetitions_3 (by decide) ?_
    refine zr_iload_n i_Mod_repetitions_4 rfl ?_
    refine zr_iconst i_Mod_repetitions_5 (v := 2) (by decide) ?_
    refine zr_iload_n i_Mod_repetitions_6 rfl ?_
    refine zn_iconst 1 i_Mod_repetitions_7 (by decide) ?_
    refine zn_iadd i_Mod_repetitions_8 ?_
    refine zr_iconst i_Mod_repetitions_9 (v := 1) (by decide) ?_
    refine zr_cv5 i_Mod_repetitions_10 rfl (by decide) rfl (Nat.le_of_ble_eq_true rfl) (Nat.le_of_ble_eq_true rfl) (e_Mod_find X _ g ms 0 cnt _ _ _ _ (by decide) hT.1 hT.2.1) ?_
    refine zT_if_lt 22 i_Mod_repetitions_13 (by decide) (mfind_lt hT) (fun c_13 => ?_) (fun c_13 => ?_)
    · skip
      refine zr_iload_n i_Mod_repetitions_22 rfl ?_
      exact zR.retE i_Mod_repetitions_23 rfl (by rw [repL, if_pos (show mV ms (nI s) 2 (nI (n + 1)) 1 = none from mtx_none.mpr c_13)])
    · skip
      refine zn_iinc i_Mod_repetitions_16 rfl rfl ?_
      refine zr_goto 2 i_Mod_repetitions_19 (by decide) ?_
      (rw [repL, if_neg (fun q => by rw [mtx_none.mp q] at c_13; cases c_13)]; exact ih (n + 1) (by omega))
theorem e_Mod_repetitions (X : zX) (d : Nat) (g : zH) (ms : zMS) (cnt : Nat) (hT : mTV ms 0 cnt) (hR : ∀ s : Nat, mfind ms 0 (nI s) 2 (nI 222) 1 = none) (s : Nat) : zR X (d + 1) 129 0 (zent 3 [.ref 129, .int (nI s)]) [] (mset g ms) (some (.int (nI (repF (mV ms) s))), mset g ms) := by
  refine zn_iconst 1 i_Mod_repetitions_0 (by decide) ?_
  refine zr_istore_n i_Mod_repetitions_1 rfl ?_
  exact l_Mod_repetitions X d g ms cnt hT hR s 220 1 rfl
end
section
/-! THE REFERENCE: results -/
section KR2
variable {X : zX} {d j pc : Nat} {L : zL} {r : List Value} {h : zH} {u : Option Value × zH}
theorem zN_if_ge {a : Nat} {off : Int} (t : Nat) (hi : zins j pc = some (.ifCond .ge off)) (ht : (pc : Int) + off = (t : Int)) (ha : a < 2 ^ 31) (kt : zR X d j t L r h u) : zR X d j pc L (.int (nI a) :: r) h u :=
  zr_if_ge t hi ht (fun _ => kt) (fun q => absurd (nI_pos' ha) q)
theorem zN_if_lt {a : Nat} {off : Int} (t : Nat) (hi : zins j pc = some (.ifCond .lt off)) (ht : (pc : Int) + off = (t : Int)) (ha : a < 2 ^ 31) (kf : zR X d j (pc + 3) L r h u) : zR X d j pc L (.int (nI a) :: r) h u :=
  zr_if_lt t hi ht (fun q => absurd q (nI_pos ha)) (fun _ => kf)
end KR2
theorem up_comm {α : Type} {f : Nat → α} {i j : Nat} (h : i ≠ j) (a b : α) : va_up (va_up f i a) j b = va_up (va_up f j b) i a := by
  funext k
  simp only [va_up]
  by_cases h1 : k = j
  · subst h1
    rw [if_pos rfl, if_neg (fun e => h e.symm), if_pos rfl]
  · rw [if_neg h1]
    by_cases h2 : k = i
    · rw [if_pos h2, if_pos h2]
    · rw [if_neg h2, if_neg h2, if_neg h1]
theorem up_same {α : Type} {f : Nat → α} {i : Nat} (a b : α) : va_up (va_up f i a) i b = va_up f i b := by
  funext k
  simp only [va_up]
  by_cases h1 : k = i
  · rw [if_pos h1, if_pos h1]
  · rw [if_neg h1, if_neg h1, if_neg h1]
theorem up_self {α : Type} {f : Nat → α} {i : Nat} : va_up f i (f i) = f := by
  funext k
  simp only [va_up]
  by_cases h1 : k = i
  · rw [if_pos h1, h1]
  · rw [if_neg h1]
/-- the three rows of results: how many, codes, values -/
abbrev zQ : Type := (Nat → Int32) × (Nat → Int32) × (Nat → Int32)
def mq (ms : zMS) : zQ := (ms.2 22, ms.2 23, ms.2 24)
def mres (ms : zMS) (q : zQ) : zMS := (ms.1, va_up (va_up (va_up ms.2 22 q.1) 23 q.2.1) 24 q.2.2)
theorem mq_res (ms : zMS) (q : zQ) : mq (mres ms q) = q := rfl
theorem mV_res (ms : zMS) (q : zQ) : mV (mres ms q) = mV ms := rfl
theorem mres_self (ms : zMS) : mres ms (mq ms) = ms := by
  unfold mres mq
  rw [up_self (f := ms.2) (i := 22), up_self (f := ms.2) (i := 23), up_self (f := ms.2) (i := 24)]
theorem mres_res (ms : zMS) (q q' : zQ) : mres (mres ms q) q' = mres ms q' := by
  unfold mres
  dsimp only
  rw [up_comm (i := 24) (j := 22) (by decide), up_comm (i := 23) (j := 22) (by decide), up_same, up_comm (i := 24) (j := 23) (by decide), up_same, up_same]
/-- the place of a code -/
def resI (c : Nat → Int32) (code : Int32) (i k : Nat) : Option Nat := zfst (fun i => decide (c i = code)) i k
theorem i_Mod_resultAt_0 : zins 134 0 = some (.bipush 12) := by decide +kernel
theorem i_Mod_resultAt_2 : zins 134 2 = some (.iload_n 1) := by decide +kernel
theorem i_Mod_resultAt_3 : zins 134 3 = some (.imul) := by decide +kernel
theorem i_Mod_resultAt_4 : zins 134 4 = some (.istore_n 3) := by decide +kernel
theorem i_Mod_resultAt_5 : zins 134 5 = some (.iload_n 3) := by decide +kernel
theorem i_Mod_resultAt_6 : zins 134 6 = some (.bipush 12) := by decide +kernel
theorem i_Mod_resultAt_8 : zins 134 8 = some (.iload_n 1) := by decide +kernel
theorem i_Mod_resultAt_9 : zins 134 9 = some (.imul) := by decide +kernel
theorem i_Mod_resultAt_10 : zins 134 10 = some (.aload_n 0) := by decide +kernel
theorem i_Mod_resultAt_11 : zins 134 11 = some (.getfield 75) := by decide +kernel
theorem i_Mod_resultAt_14 : zins 134 14 = some (.iload_n 1) := by decide +kernel
theorem i_Mod_resultAt_15 : zins 134 15 = some (.iaload) := by decide +kernel
theorem i_Mod_resultAt_16 : zins 134 16 = some (.iadd) := by decide +kernel
theorem i_Mod_resultAt_17 : zins 134 17 = some (.if_icmp .ge 21) := by decide +kernel
theorem i_Mod_resultAt_20 : zins 134 20 = some (.aload_n 0) := by decide +kernel
theorem i_Mod_resultAt_21 : zins 134 21 = some (.getfield 78) := by decide +kernel
theorem i_Mod_resultAt_24 : zins 134 24 = some (.iload_n 3) := by decide +kernel
theorem i_Mod_resultAt_25 : zins 134 25 = some (.iaload) := by decide +kernel
theorem i_Mod_resultAt_26 : zins 134 26 = some (.iload_n 2) := by decide +kernel
theorem i_Mod_resultAt_27 : zins 134 27 = some (.if_icmp .ne 5) := by decide +kernel
theorem i_Mod_resultAt_30 : zins 134 30 = some (.iload_n 3) := by decide +kernel
theorem i_Mod_resultAt_31 : zins 134 31 = some (.ireturn) := by decide +kernel
theorem i_Mod_resultAt_32 : zins 134 32 = some (.iinc 3 1) := by decide +kernel
theorem i_Mod_resultAt_35 : zins 134 35 = some (.goto (-30)) := by decide +kernel
theorem i_Mod_resultAt_38 : zins 134 38 = some (.iconst (-1)) := by decide +kernel
theorem i_Mod_resultAt_39 : zins 134 39 = some (.ireturn) := by decide +kernel
theorem l_Mod_resultAt (X : zX) (d : Nat) (g : zH) (ms : zMS) (p cnt : Nat) (code : Int32) (hc : ms.2 22 p = nI cnt) (hcl : cnt ≤ 12) (hp : p ≤ 100) : ∀ (k i : Nat), i + k = 12 * p + cnt → zR X d 134 5 [some (.ref 129), some (.int (nI p)), some (.int code), some (.int (nI i))] [] (mset g ms) (some (.int (tI (resI (ms.2 23) code i k))), mset g ms) := by
  intro k
  induction k with
  | zero =>
    intro i hik
    refine zr_iload_n i_Mod_resultAt_5 rfl ?_
    refine zn_bipush 12 i_Mod_resultAt_6 (by decide) ?_
    refine zr_iload_n i_Mod_resultAt_8 rfl ?_
    refine zn_imul i_Mod_resultAt_9 ?_
    refine zr_aload_n i_Mod_resultAt_10 rfl ?_
    refine zr_getf i_Mod_resultAt_11 rfl rfl rfl ?_
    refine zr_iload_n i_Mod_resultAt_14 rfl ?_
    refine zn_iaload i_Mod_resultAt_15 rfl (by omega) (by decide) ?_
    refine zr_top (y := nI cnt) hc ?_
    refine zn_iadd i_Mod_resultAt_16 ?_
    refine zn_icmp_ge 38 i_Mod_resultAt_17 (by decide) (by omega) (by omega) (fun c_17 => ?_) (fun q => absurd q (by first | assumption | omega | simp_all))
    refine zr_iconst i_Mod_resultAt_38 (v := (-1)) (by decide) ?_
    exact zR.retE i_Mod_resultAt_39 rfl rfl
  | succ k ih =>
    intro i hik
    refine zr_iload_n i_Mod_resultAt_5 rfl ?_
    refine zn_bipush 12 i_Mod_resultAt_6 (by decide) ?_
    refine zr_iload_n i_Mod_resultAt_8 rfl ?_
    refine zn_imul i_Mod_resultAt_9 ?_
    refine zr_aload_n i_Mod_resultAt_10 rfl ?_
    refine zr_getf i_Mod_resultAt_11 rfl rfl rfl ?_
    refine zr_iload_n i_Mod_resultAt_14 rfl ?_
    refine zn_iaload i_Mod_resultAt_15 rfl (by omega) (by decide) ?_
    refine zr_top (y := nI cnt) hc ?_
    refine zn_iadd i_Mod_resultAt_16 ?_
    refine zn_icmp_ge 38 i_Mod_resultAt_17 (by decide) (by omega) (by omega) (fun q => absurd q (by first | assumption | omega | simp_all)) (fun c_17 => ?_)
    refine zr_aload_n i_Mod_resultAt_20 rfl ?_
    refine zr_getf i_Mod_resultAt_21 rfl rfl rfl ?_
    refine zr_iload_n i_Mod_resultAt_24 rfl ?_
    refine zn_iaload i_Mod_resultAt_25 rfl (by omega) (by decide) ?_
    refine zr_iload_n i_Mod_resultAt_26 rfl ?_
    refine zr_icmp_ne 32 i_Mod_resultAt_27 (by decide) (fun c_27 => ?_) (fun c_27 => ?_)
    · skip
      refine zn_iinc i_Mod_resultAt_32 rfl rfl ?_
      refine zr_goto 5 i_Mod_resultAt_35 (by decide) ?_
      (rw [resI, zfst, if_neg (by simp [*])]; exact ih (i + 1) (by omega))
    · skip
      refine zr_iload_n i_Mod_resultAt_30 rfl ?_
      exact zR.retE i_Mod_resultAt_31 rfl (by rw [resI, zfst, if_pos (by simp [*])]; rfl)
theorem e_Mod_resultAt (X : zX) (d : Nat) (g : zH) (ms : zMS) (p cnt : Nat) (code : Int32) (hc : ms.2 22 p = nI cnt) (hcl : cnt ≤ 12) (hp : p ≤ 100) : zR X d 134 0 (zent 4 [.ref 129, .int (nI p), .int code]) [] (mset g ms) (some (.int (tI (resI (ms.2 23) code (12 * p) cnt))), mset g ms) := by
  refine zn_bipush 12 i_Mod_resultAt_0 (by decide) ?_
  refine zr_iload_n i_Mod_resultAt_2 rfl ?_
  refine zn_imul i_Mod_resultAt_3 ?_
  refine zr_istore_n i_Mod_resultAt_4 rfl ?_
  exact l_Mod_resultAt X d g ms p cnt code hc hcl hp cnt (12 * p) rfl
theorem zcpy_0 {α : Type} {f : Nat → α} {a b : Nat} : va_cpy f f a b 0 = f := by
  funext j
  exact pk_cpy_out (by omega)
theorem zcpy_s {f : Nat → Int32} {a b i : Nat} (h : a + i < b ∨ b + i ≤ a) : upd (va_cpy f f a b i) (b + i) (va_cpy f f a b i (a + i)) = va_cpy f f a b (i + 1) := by
  funext j
  have e : va_cpy f f a b i (a + i) = f (a + i) := by
    by_cases hh : a + i < b ∨ b + i ≤ a + i
    · exact pk_cpy_out hh
    · exfalso; omega
  rw [e]
  by_cases h1 : j = b + i
  · subst h1
    rw [pk_us, pk_cpy_in (by omega) (by omega)]
    congr 1
    omega
  · rw [pk_un h1]
    by_cases h2 : b ≤ j ∧ j < b + i
    · rw [pk_cpy_in h2.1 h2.2, pk_cpy_in h2.1 (by omega)]
    · rw [pk_cpy_out (by omega), pk_cpy_out (by omega)]
def copyQ (q : zQ) (a b : Nat) : zQ := (upd q.1 b (q.1 a), va_cpy q.2.1 q.2.1 (12 * a) (12 * b) 12, va_cpy q.2.2 q.2.2 (12 * a) (12 * b) 12)
theorem mres_23 (ms : zMS) (q : zQ) (a b : Nat → Int32) : ((mres ms q).1, va_up (va_up (mres ms q).2 23 a) 24 b) = mres ms (q.1, a, b) := by
  unfold mres
  dsimp only
  rw [up_comm (i := 24) (j := 23) (by decide), up_same, up_same]
theorem i_Mod_copyResults_0 : zins 132 0 = some (.aload_n 0) := by decide +kernel
theorem i_Mod_copyResults_1 : zins 132 1 = some (.getfield 75) := by decide +kernel
theorem i_Mod_copyResults_4 : zins 132 4 = some (.iload_n 2) := by decide +kernel
theorem i_Mod_copyResults_5 : zins 132 5 = some (.aload_n 0) := by decide +kernel
theorem i_Mod_copyResults_6 : zins 132 6 = some (.getfield 75) := by decide +kernel
theorem i_Mod_copyResults_9 : zins 132 9 = some (.iload_n 1) := by decide +kernel
theorem i_Mod_copyResults_10 : zins 132 10 = some (.iaload) := by decide +kernel
theorem i_Mod_copyResults_11 : zins 132 11 = some (.iastore) := by decide +kernel
theorem i_Mod_copyResults_12 : zins 132 12 = some (.iconst 0) := by decide +kernel
theorem i_Mod_copyResults_13 : zins 132 13 = some (.istore_n 3) := by decide +kernel
theorem i_Mod_copyResults_14 : zins 132 14 = some (.iload_n 3) := by decide +kernel
theorem i_Mod_copyResults_15 : zins 132 15 = some (.bipush 12) := by decide +kernel
theorem i_Mod_copyResults_17 : zins 132 17 = some (.if_icmp .ge 53) := by decide +kernel
theorem i_Mod_copyResults_20 : zins 132 20 = some (.aload_n 0) := by decide +kernel
theorem i_Mod_copyResults_21 : zins 132 21 = some (.getfield 78) := by decide +kernel
theorem i_Mod_copyResults_24 : zins 132 24 = some (.bipush 12) := by decide +kernel
theorem i_Mod_copyResults_26 : zins 132 26 = some (.iload_n 2) := by decide +kernel
theorem i_Mod_copyResults_27 : zins 132 27 = some (.imul) := by decide +kernel
theorem i_Mod_copyResults_28 : zins 132 28 = some (.iload_n 3) := by decide +kernel
theorem i_Mod_copyResults_29 : zins 132 29 = some (.iadd) := by decide +kernel
theorem i_Mod_copyResults_30 : zins 132 30 = some (.aload_n 0) := by decide +kernel
theorem i_Mod_copyResults_31 : zins 132 31 = some (.getfield 78) := by decide +kernel
theorem i_Mod_copyResults_34 : zins 132 34 = some (.bipush 12) := by decide +kernel
theorem i_Mod_copyResults_36 : zins 132 36 = some (.iload_n 1) := by decide +kernel
theorem i_Mod_copyResults_37 : zins 132 37 = some (.imul) := by decide +kernel
theorem i_Mod_copyResults_38 : zins 132 38 = some (.iload_n 3) := by decide +kernel
theorem i_Mod_copyResults_39 : zins 132 39 = some (.iadd) := by decide +kernel
theorem i_Mod_copyResults_40 : zins 132 40 = some (.iaload) := by decide +kernel
theorem i_Mod_copyResults_41 : zins 132 41 = some (.iastore) := by decide +kernel
theorem i_Mod_copyResults_42 : zins 132 42 = some (.aload_n 0) := by decide +kernel
theorem i_Mod_copyResults_43 : zins 132 43 = some (.getfield 81) := by decide +kernel
theorem i_Mod_copyResults_46 : zins 132 46 = some (.bipush 12) := by decide +kernel
theorem i_Mod_copyResults_48 : zins 132 48 = some (.iload_n 2) := by decide +kernel
theorem i_Mod_copyResults_49 : zins 132 49 = some (.imul) := by decide +kernel
theorem i_Mod_copyResults_50 : zins 132 50 = some (.iload_n 3) := by decide +kernel
theorem i_Mod_copyResults_51 : zins 132 51 = some (.iadd) := by decide +kernel
theorem i_Mod_copyResults_52 : zins 132 52 = some (.aload_n 0) := by decide +kernel
theorem i_Mod_copyResults_53 : zins 132 53 = some (.getfield 81) := by decide +kernel
theorem i_Mod_copyResults_56 : zins 132 56 = some (.bipush 12) := by decide +kernel
theorem i_Mod_copyResults_58 : zins 132 58 = some (.iload_n 1) := by decide +kernel
theorem i_Mod_copyResults_59 : zins 132 59 = some (.imul) := by decide +kernel
theorem i_Mod_copyResults_60 : zins 132 60 = some (.iload_n 3) := by decide +kernel
theorem i_Mod_copyResults_61 : zins 132 61 = some (.iadd) := by decide +kernel
theorem i_Mod_copyResults_62 : zins 132 62 = some (.iaload) := by decide +kernel
theorem i_Mod_copyResults_63 : zins 132 63 = some (.iastore) := by decide +kernel
theorem i_Mod_copyResults_64 : zins 132 64 = some (.iinc 3 1) := by decide +kernel
theorem i_Mod_copyResults_67 : zins 132 67 = some (.goto (-53)) := by decide +kernel
theorem i_Mod_copyResults_70 : zins 132 70 = some (.return_) := by decide +kernel
theorem l_Mod_copyResults (X : zX) (d : Nat) (g : zH) (ms : zMS) (a b : Nat) (ha : a ≤ 100) (hb : b ≤ 100) (hab : a ≠ b) : ∀ (k i : Nat), i + k = 12 → zR X d 132 14 [some (.ref 129), some (.int (nI a)), some (.int (nI b)), some (.int (nI i))] [] (mset g (mres ms (upd (ms.2 22) b (ms.2 22 a), va_cpy (ms.2 23) (ms.2 23) (12 * a) (12 * b) i, va_cpy (ms.2 24) (ms.2 24) (12 * a) (12 * b) i))) (none, mset g (mres ms (copyQ (mq ms) a b))) := by
  intro k
  induction k with
  | zero =>
    intro i hik
    refine zr_iload_n i_Mod_copyResults_14 rfl ?_
    refine zn_bipush 12 i_Mod_copyResults_15 (by decide) ?_
    refine zn_icmp_ge 70 i_Mod_copyResults_17 (by decide) (by omega) (by omega) (fun c_17 => ?_) (fun q => absurd q (by first | assumption | omega | simp_all))
    exact zR.retE i_Mod_copyResults_70 rfl (by rw [show i = 12 by omega]; rfl)
  | succ k ih =>
    intro i hik
    refine zr_iload_n i_Mod_copyResults_14 rfl ?_
    refine zn_bipush 12 i_Mod_copyResults_15 (by decide) ?_
    refine zn_icmp_ge 70 i_Mod_copyResults_17 (by decide) (by omega) (by omega) (fun q => absurd q (by first | assumption | omega | simp_all)) (fun c_17 => ?_)
    refine zr_aload_n i_Mod_copyResults_20 rfl ?_
    refine zr_getf i_Mod_copyResults_21 rfl rfl rfl ?_
    refine zn_bipush 12 i_Mod_copyResults_24 (by decide) ?_
    refine zr_iload_n i_Mod_copyResults_26 rfl ?_
    refine zn_imul i_Mod_copyResults_27 ?_
    refine zr_iload_n i_Mod_copyResults_28 rfl ?_
    refine zn_iadd i_Mod_copyResults_29 ?_
    refine zr_aload_n i_Mod_copyResults_30 rfl ?_
    refine zr_getf i_Mod_copyResults_31 rfl rfl rfl ?_
    refine zn_bipush 12 i_Mod_copyResults_34 (by decide) ?_
    refine zr_iload_n i_Mod_copyResults_36 rfl ?_
    refine zn_imul i_Mod_copyResults_37 ?_
    refine zr_iload_n i_Mod_copyResults_38 rfl ?_
    refine zn_iadd i_Mod_copyResults_39 ?_
    refine zn_iaload i_Mod_copyResults_40 rfl (by omega) (by decide) ?_
    refine mn_iastore 23 1212 i_Mod_copyResults_41 (fun _ => rfl) (by decide) (by omega) (by decide) ?_
    refine zr_aload_n i_Mod_copyResults_42 rfl ?_
    refine zr_getf i_Mod_copyResults_43 rfl rfl rfl ?_
    refine zn_bipush 12 i_Mod_copyResults_46 (by decide) ?_
    refine zr_iload_n i_Mod_copyResults_48 rfl ?_
    refine zn_imul i_Mod_copyResults_49 ?_
    refine zr_iload_n i_Mod_copyResults_50 rfl ?_
    refine zn_iadd i_Mod_copyResults_51 ?_
    refine zr_aload_n i_Mod_copyResults_52 rfl ?_
    refine zr_getf i_Mod_copyResults_53 rfl rfl rfl ?_
    refine zn_bipush 12 i_Mod_copyResults_56 (by decide) ?_
    refine zr_iload_n i_Mod_copyResults_58 rfl ?_
    refine zn_imul i_Mod_copyResults_59 ?_
    refine zr_iload_n i_Mod_copyResults_60 rfl ?_
    refine zn_iadd i_Mod_copyResults_61 ?_
    refine zn_iaload i_Mod_copyResults_62 rfl (by omega) (by decide) ?_
    refine mn_iastore 24 1212 i_Mod_copyResults_63 (fun _ => rfl) (by decide) (by omega) (by decide) ?_
    refine zn_iinc i_Mod_copyResults_64 rfl rfl ?_
    refine zr_goto 14 i_Mod_copyResults_67 (by decide) ?_
    (have e := ih (i + 1) (by omega)
     rw [← zcpy_s (show 12 * a + i < 12 * b ∨ 12 * b + i ≤ 12 * a by omega), ← zcpy_s (show 12 * a + i < 12 * b ∨ 12 * b + i ≤ 12 * a by omega), ← mres_23 ms (upd (ms.2 22) b (ms.2 22 a), va_cpy (ms.2 23) (ms.2 23) (12 * a) (12 * b) i, va_cpy (ms.2 24) (ms.2 24) (12 * a) (12 * b) i)] at e
     exact e)
theorem e_Mod_copyResults (X : zX) (d : Nat) (g : zH) (ms : zMS) (a b : Nat) (ha : a ≤ 100) (hb : b ≤ 100) (hab : a ≠ b) : zR X d 132 0 (zent 4 [.ref 129, .int (nI a), .int (nI b)]) [] (mset g ms) (none, mset g (mres ms (copyQ (mq ms) a b))) := by
  refine zr_aload_n i_Mod_copyResults_0 rfl ?_
  refine zr_getf i_Mod_copyResults_1 rfl rfl rfl ?_
  refine zr_iload_n i_Mod_copyResults_4 rfl ?_
  refine zr_aload_n i_Mod_copyResults_5 rfl ?_
  refine zr_getf i_Mod_copyResults_6 rfl rfl rfl ?_
  refine zr_iload_n i_Mod_copyResults_9 rfl ?_
  refine zn_iaload i_Mod_copyResults_10 rfl (by omega) (by decide) ?_
  refine mn_iastore 22 101 i_Mod_copyResults_11 (fun _ => rfl) (by decide) (by omega) (by decide) ?_
  refine zn_iconst 0 i_Mod_copyResults_12 (by decide) ?_
  refine zr_istore_n i_Mod_copyResults_13 rfl ?_
  (have e := l_Mod_copyResults X d g ms a b ha hb hab 12 0 rfl
   have e2 : mres ms (upd (ms.2 22) b (ms.2 22 a), va_cpy (ms.2 23) (ms.2 23) (12 * a) (12 * b) 0, va_cpy (ms.2 24) (ms.2 24) (12 * a) (12 * b) 0) = (ms.1, va_up ms.2 22 (upd (ms.2 22) b (ms.2 22 a))) := by
     rw [zcpy_0, zcpy_0]
     unfold mres
     dsimp only
     rw [up_comm (i := 22) (j := 23) (by decide), up_self (f := ms.2) (i := 23), up_comm (i := 22) (j := 24) (by decide), up_self (f := ms.2) (i := 24)]
   rw [e2] at e
   exact e)
/-- a value, or none, for a code, in the rows from 1200 on; false where there is no room -/
def tryQ (q : zQ) (code v : Int32) : zQ × Bool :=
  if 0 ≤ v then (match resI q.2.1 code 1200 (q.1 100).toNatClampNeg with
    | none => if (q.1 100).toNatClampNeg = 12 then (q, false) else ((upd q.1 100 (nI ((q.1 100).toNatClampNeg + 1)), upd q.2.1 (1200 + (q.1 100).toNatClampNeg) code, upd q.2.2 (1200 + (q.1 100).toNatClampNeg) v), true)
    | some i => ((q.1, upd q.2.1 i code, upd q.2.2 i v), true))
  else (match resI q.2.1 code 1200 (q.1 100).toNatClampNeg with
    | none => (q, true)
    | some i => ((upd q.1 100 (nI ((q.1 100).toNatClampNeg - 1)), upd q.2.1 i (q.2.1 (1200 + (q.1 100).toNatClampNeg - 1)), upd q.2.2 i (q.2.2 (1200 + (q.1 100).toNatClampNeg - 1))), true))
theorem mres_3 (ms : zMS) (a b c : Nat → Int32) : (ms.1, va_up (va_up (va_up ms.2 23 a) 24 b) 22 c) = mres ms (c, a, b) := by
  unfold mres
  dsimp only
  rw [up_comm (i := 24) (j := 22) (by decide), up_comm (i := 23) (j := 22) (by decide)]
theorem mres_2 (ms : zMS) (a b : Nat → Int32) : (ms.1, va_up (va_up ms.2 23 a) 24 b) = mres ms (ms.2 22, a, b) := by
  unfold mres
  dsimp only
  rw [up_self (f := ms.2) (i := 22)]
theorem tryQ_ok {q : zQ} {n : Nat} (hn : q.1 100 = nI n) (hl : n ≤ 12) (code v : Int32) : ∃ m, (tryQ q code v).1.1 100 = nI m ∧ m ≤ 12 := by
  unfold tryQ
  rw [hn, nI_clamp (by omega)]
  split
  · split
    · split
      · exact ⟨n, hn, hl⟩
      · exact ⟨n + 1, (pk_us : upd q.1 100 (nI (n + 1)) 100 = _), by omega⟩
    · exact ⟨n, hn, hl⟩
  · split
    · exact ⟨n, hn, hl⟩
    · exact ⟨n - 1, (pk_us : upd q.1 100 (nI (n - 1)) 100 = _), by omega⟩
theorem i_Mod_tryValue_0 : zins 133 0 = some (.aload_n 0) := by decide +kernel
theorem i_Mod_tryValue_1 : zins 133 1 = some (.bipush 100) := by decide +kernel
theorem i_Mod_tryValue_3 : zins 133 3 = some (.iload_n 1) := by decide +kernel
theorem i_Mod_tryValue_4 : zins 133 4 = some (.invokevirtual 179) := by decide +kernel
theorem i_Mod_tryValue_7 : zins 133 7 = some (.istore_n 3) := by decide +kernel
theorem i_Mod_tryValue_8 : zins 133 8 = some (.sipush 1200) := by decide +kernel
theorem i_Mod_tryValue_11 : zins 133 11 = some (.aload_n 0) := by decide +kernel
theorem i_Mod_tryValue_12 : zins 133 12 = some (.getfield 75) := by decide +kernel
theorem i_Mod_tryValue_15 : zins 133 15 = some (.bipush 100) := by decide +kernel
theorem i_Mod_tryValue_17 : zins 133 17 = some (.iaload) := by decide +kernel
theorem i_Mod_tryValue_18 : zins 133 18 = some (.iadd) := by decide +kernel
theorem i_Mod_tryValue_19 : zins 133 19 = some (.iconst 1) := by decide +kernel
theorem i_Mod_tryValue_20 : zins 133 20 = some (.isub) := by decide +kernel
theorem i_Mod_tryValue_21 : zins 133 21 = some (.istore 4) := by decide +kernel
theorem i_Mod_tryValue_23 : zins 133 23 = some (.iload_n 2) := by decide +kernel
theorem i_Mod_tryValue_24 : zins 133 24 = some (.ifCond .ge 46) := by decide +kernel
theorem i_Mod_tryValue_27 : zins 133 27 = some (.iload_n 3) := by decide +kernel
theorem i_Mod_tryValue_28 : zins 133 28 = some (.ifCond .lt 40) := by decide +kernel
theorem i_Mod_tryValue_31 : zins 133 31 = some (.aload_n 0) := by decide +kernel
theorem i_Mod_tryValue_32 : zins 133 32 = some (.getfield 78) := by decide +kernel
theorem i_Mod_tryValue_35 : zins 133 35 = some (.iload_n 3) := by decide +kernel
theorem i_Mod_tryValue_36 : zins 133 36 = some (.aload_n 0) := by decide +kernel
theorem i_Mod_tryValue_37 : zins 133 37 = some (.getfield 78) := by decide +kernel
theorem i_Mod_tryValue_40 : zins 133 40 = some (.iload 4) := by decide +kernel
theorem i_Mod_tryValue_42 : zins 133 42 = some (.iaload) := by decide +kernel
theorem i_Mod_tryValue_43 : zins 133 43 = some (.iastore) := by decide +kernel
theorem i_Mod_tryValue_44 : zins 133 44 = some (.aload_n 0) := by decide +kernel
theorem i_Mod_tryValue_45 : zins 133 45 = some (.getfield 81) := by decide +kernel
theorem i_Mod_tryValue_48 : zins 133 48 = some (.iload_n 3) := by decide +kernel
theorem i_Mod_tryValue_49 : zins 133 49 = some (.aload_n 0) := by decide +kernel
theorem i_Mod_tryValue_50 : zins 133 50 = some (.getfield 81) := by decide +kernel
theorem i_Mod_tryValue_53 : zins 133 53 = some (.iload 4) := by decide +kernel
theorem i_Mod_tryValue_55 : zins 133 55 = some (.iaload) := by decide +kernel
theorem i_Mod_tryValue_56 : zins 133 56 = some (.iastore) := by decide +kernel
theorem i_Mod_tryValue_57 : zins 133 57 = some (.aload_n 0) := by decide +kernel
theorem i_Mod_tryValue_58 : zins 133 58 = some (.getfield 75) := by decide +kernel
theorem i_Mod_tryValue_61 : zins 133 61 = some (.bipush 100) := by decide +kernel
theorem i_Mod_tryValue_63 : zins 133 63 = some (.dup2) := by decide +kernel
theorem i_Mod_tryValue_64 : zins 133 64 = some (.iaload) := by decide +kernel
theorem i_Mod_tryValue_65 : zins 133 65 = some (.iconst 1) := by decide +kernel
theorem i_Mod_tryValue_66 : zins 133 66 = some (.isub) := by decide +kernel
theorem i_Mod_tryValue_67 : zins 133 67 = some (.iastore) := by decide +kernel
theorem i_Mod_tryValue_68 : zins 133 68 = some (.iconst 1) := by decide +kernel
theorem i_Mod_tryValue_69 : zins 133 69 = some (.ireturn) := by decide +kernel
theorem i_Mod_tryValue_70 : zins 133 70 = some (.iload_n 3) := by decide +kernel
theorem i_Mod_tryValue_71 : zins 133 71 = some (.ifCond .ge 17) := by decide +kernel
theorem i_Mod_tryValue_74 : zins 133 74 = some (.aload_n 0) := by decide +kernel
theorem i_Mod_tryValue_75 : zins 133 75 = some (.getfield 75) := by decide +kernel
theorem i_Mod_tryValue_78 : zins 133 78 = some (.bipush 100) := by decide +kernel
theorem i_Mod_tryValue_80 : zins 133 80 = some (.iaload) := by decide +kernel
theorem i_Mod_tryValue_81 : zins 133 81 = some (.bipush 12) := by decide +kernel
theorem i_Mod_tryValue_83 : zins 133 83 = some (.if_icmp .ne 5) := by decide +kernel
theorem i_Mod_tryValue_86 : zins 133 86 = some (.iconst 0) := by decide +kernel
theorem i_Mod_tryValue_87 : zins 133 87 = some (.ireturn) := by decide +kernel
theorem i_Mod_tryValue_88 : zins 133 88 = some (.iload_n 3) := by decide +kernel
theorem i_Mod_tryValue_89 : zins 133 89 = some (.ifCond .ge 19) := by decide +kernel
theorem i_Mod_tryValue_92 : zins 133 92 = some (.iload 4) := by decide +kernel
theorem i_Mod_tryValue_94 : zins 133 94 = some (.iconst 1) := by decide +kernel
theorem i_Mod_tryValue_95 : zins 133 95 = some (.iadd) := by decide +kernel
theorem i_Mod_tryValue_96 : zins 133 96 = some (.istore_n 3) := by decide +kernel
theorem i_Mod_tryValue_97 : zins 133 97 = some (.aload_n 0) := by decide +kernel
theorem i_Mod_tryValue_98 : zins 133 98 = some (.getfield 75) := by decide +kernel
theorem i_Mod_tryValue_101 : zins 133 101 = some (.bipush 100) := by decide +kernel
theorem i_Mod_tryValue_103 : zins 133 103 = some (.dup2) := by decide +kernel
theorem i_Mod_tryValue_104 : zins 133 104 = some (.iaload) := by decide +kernel
theorem i_Mod_tryValue_105 : zins 133 105 = some (.iconst 1) := by decide +kernel
theorem i_Mod_tryValue_106 : zins 133 106 = some (.iadd) := by decide +kernel
theorem i_Mod_tryValue_107 : zins 133 107 = some (.iastore) := by decide +kernel
theorem i_Mod_tryValue_108 : zins 133 108 = some (.aload_n 0) := by decide +kernel
theorem i_Mod_tryValue_109 : zins 133 109 = some (.getfield 78) := by decide +kernel
theorem i_Mod_tryValue_112 : zins 133 112 = some (.iload_n 3) := by decide +kernel
theorem i_Mod_tryValue_113 : zins 133 113 = some (.iload_n 1) := by decide +kernel
theorem i_Mod_tryValue_114 : zins 133 114 = some (.iastore) := by decide +kernel
theorem i_Mod_tryValue_115 : zins 133 115 = some (.aload_n 0) := by decide +kernel
theorem i_Mod_tryValue_116 : zins 133 116 = some (.getfield 81) := by decide +kernel
theorem i_Mod_tryValue_119 : zins 133 119 = some (.iload_n 3) := by decide +kernel
theorem i_Mod_tryValue_120 : zins 133 120 = some (.iload_n 2) := by decide +kernel
theorem i_Mod_tryValue_121 : zins 133 121 = some (.iastore) := by decide +kernel
theorem i_Mod_tryValue_122 : zins 133 122 = some (.iconst 1) := by decide +kernel
theorem i_Mod_tryValue_123 : zins 133 123 = some (.ireturn) := by decide +kernel
theorem e_Mod_tryValue (X : zX) (d : Nat) (g : zH) (ms : zMS) (n : Nat) (hn : ms.2 22 100 = nI n) (hl : n ≤ 12) (code v : Int32) : zR X (d + 1) 133 0 (zent 5 [.ref 129, .int code, .int v]) [] (mset g ms) (some (.int (zb (tryQ (mq ms) code v).2)), mset g (mres ms (tryQ (mq ms) code v).1)) := by
  refine zr_aload_n i_Mod_tryValue_0 rfl ?_
  refine zn_bipush 100 i_Mod_tryValue_1 (by decide) ?_
  refine zr_iload_n i_Mod_tryValue_3 rfl ?_
  refine zr_cv2 i_Mod_tryValue_4 rfl (by decide) rfl (Nat.le_of_ble_eq_true rfl) (Nat.le_of_ble_eq_true rfl) (e_Mod_resultAt X _ g _ _ n _ hn hl (by decide)) ?_
  refine zr_istore_n i_Mod_tryValue_7 rfl ?_
  refine zn_sipush 1200 i_Mod_tryValue_8 (by decide) ?_
  refine zr_aload_n i_Mod_tryValue_11 rfl ?_
  refine zr_getf i_Mod_tryValue_12 rfl rfl rfl ?_
  refine zn_bipush 100 i_Mod_tryValue_15 (by decide) ?_
  refine zn_iaload i_Mod_tryValue_17 rfl (by omega) (by decide) ?_
  refine zr_top (y := nI n) hn ?_
  refine zn_iadd i_Mod_tryValue_18 ?_
  refine zn_iconst 1 i_Mod_tryValue_19 (by decide) ?_
  refine zn_isub i_Mod_tryValue_20 (by omega) ?_
  refine zr_istore i_Mod_tryValue_21 rfl ?_
  (cases e : resI (ms.2 23) code 1200 n with
  | none =>
    refine zr_iload_n i_Mod_tryValue_23 rfl ?_
    refine zr_if_ge 70 i_Mod_tryValue_24 (by decide) (fun c_24 => ?_) (fun c_24 => ?_)
    · skip
      refine zr_iload_n i_Mod_tryValue_70 rfl ?_
      refine zr_if_ge 88 i_Mod_tryValue_71 (by decide) (fun q => absurd q (by decide)) (fun _ => ?_)
      refine zr_aload_n i_Mod_tryValue_74 rfl ?_
      refine zr_getf i_Mod_tryValue_75 rfl rfl rfl ?_
      refine zn_bipush 100 i_Mod_tryValue_78 (by decide) ?_
      refine zn_iaload i_Mod_tryValue_80 rfl (by omega) (by decide) ?_
      refine zr_top (y := nI n) hn ?_
      refine zn_bipush 12 i_Mod_tryValue_81 (by decide) ?_
      refine zn_icmp_ne 88 i_Mod_tryValue_83 (by decide) (by omega) (by omega) (fun c_83 => ?_) (fun c_83 => ?_)
      · skip
        refine zr_iload_n i_Mod_tryValue_88 rfl ?_
        refine zr_if_ge 108 i_Mod_tryValue_89 (by decide) (fun q => absurd q (by decide)) (fun _ => ?_)
        refine zr_iload i_Mod_tryValue_92 rfl ?_
        refine zn_iconst 1 i_Mod_tryValue_94 (by decide) ?_
        refine zn_iadd i_Mod_tryValue_95 ?_
        refine zr_istore_n i_Mod_tryValue_96 rfl ?_
        refine zr_aload_n i_Mod_tryValue_97 rfl ?_
        refine zr_getf i_Mod_tryValue_98 rfl rfl rfl ?_
        refine zn_bipush 100 i_Mod_tryValue_101 (by decide) ?_
        refine zr_dup2 i_Mod_tryValue_103 rfl rfl ?_
        refine zn_iaload i_Mod_tryValue_104 rfl (by omega) (by decide) ?_
        refine zr_top (y := nI n) hn ?_
        refine zn_iconst 1 i_Mod_tryValue_105 (by decide) ?_
        refine zn_iadd i_Mod_tryValue_106 ?_
        refine mn_iastore 22 101 i_Mod_tryValue_107 (fun _ => rfl) (by decide) (by omega) (by decide) ?_
        refine zr_aload_n i_Mod_tryValue_108 rfl ?_
        refine zr_getf i_Mod_tryValue_109 rfl rfl rfl ?_
        refine zr_iload_n i_Mod_tryValue_112 rfl ?_
        refine zr_iload_n i_Mod_tryValue_113 rfl ?_
        refine mn_iastore 23 1212 i_Mod_tryValue_114 (fun _ => rfl) (by decide) (by omega) (by decide) ?_
        refine zr_aload_n i_Mod_tryValue_115 rfl ?_
        refine zr_getf i_Mod_tryValue_116 rfl rfl rfl ?_
        refine zr_iload_n i_Mod_tryValue_119 rfl ?_
        refine zr_iload_n i_Mod_tryValue_120 rfl ?_
        refine mn_iastore 24 1212 i_Mod_tryValue_121 (fun _ => rfl) (by decide) (by omega) (by decide) ?_
        refine zr_iconst i_Mod_tryValue_122 (v := 1) (by decide) ?_
        (refine zR.retE i_Mod_tryValue_123 rfl ?_
         rw [show tryQ (mq ms) code v = ((upd (ms.2 22) 100 (nI (n + 1)), upd (ms.2 23) (1200 + n) code, upd (ms.2 24) (1200 + n) v), true) from (by unfold tryQ; rw [show (mq ms).1 100 = nI n from hn, nI_clamp (show n < 2 ^ 31 by omega), show resI (mq ms).2.1 code 1200 n = _ from e]; simp [*, mq])]
         rw [← mres_3, show 1200 + n = 1200 + n - 1 + 1 by omega, up_comm (i := 24) (j := 22) (by decide), up_comm (i := 23) (j := 22) (by decide)]; rfl)
      · skip
        refine zr_iconst i_Mod_tryValue_86 (v := 0) (by decide) ?_
        (refine zR.retE i_Mod_tryValue_87 rfl ?_
         rw [show tryQ (mq ms) code v = ((mq ms), false) from (by unfold tryQ; rw [show (mq ms).1 100 = nI n from hn, nI_clamp (show n < 2 ^ 31 by omega), show resI (mq ms).2.1 code 1200 n = _ from e]; simp [*, mq])]
         rw [mres_self]; rfl)
    · skip
      refine zr_iload_n i_Mod_tryValue_27 rfl ?_
      refine zr_if_lt 68 i_Mod_tryValue_28 (by decide) (fun _ => ?_) (fun q => absurd (by decide) q)
      refine zr_iconst i_Mod_tryValue_68 (v := 1) (by decide) ?_
      (refine zR.retE i_Mod_tryValue_69 rfl ?_
       rw [show tryQ (mq ms) code v = ((mq ms), true) from (by unfold tryQ; rw [show (mq ms).1 100 = nI n from hn, nI_clamp (show n < 2 ^ 31 by omega), show resI (mq ms).2.1 code 1200 n = _ from e]; simp [*, mq])]
       rw [mres_self]; rfl)
  | some i =>
    have hi := zfst_some (P := fun i => decide (ms.2 23 i = code)) e
    refine zr_iload_n i_Mod_tryValue_23 rfl ?_
    refine zr_if_ge 70 i_Mod_tryValue_24 (by decide) (fun c_24 => ?_) (fun c_24 => ?_)
    · skip
      refine zr_iload_n i_Mod_tryValue_70 rfl ?_
      refine zN_if_ge 88 i_Mod_tryValue_71 (by decide) (by omega) ?_
      refine zr_iload_n i_Mod_tryValue_88 rfl ?_
      refine zN_if_ge 108 i_Mod_tryValue_89 (by decide) (by omega) ?_
      refine zr_aload_n i_Mod_tryValue_108 rfl ?_
      refine zr_getf i_Mod_tryValue_109 rfl rfl rfl ?_
      refine zr_iload_n i_Mod_tryValue_112 rfl ?_
      refine zr_iload_n i_Mod_tryValue_113 rfl ?_
      refine mn_iastore 23 1212 i_Mod_tryValue_114 (fun _ => rfl) (by decide) (by omega) (by decide) ?_
      refine zr_aload_n i_Mod_tryValue_115 rfl ?_
      refine zr_getf i_Mod_tryValue_116 rfl rfl rfl ?_
      refine zr_iload_n i_Mod_tryValue_119 rfl ?_
      refine zr_iload_n i_Mod_tryValue_120 rfl ?_
      refine mn_iastore 24 1212 i_Mod_tryValue_121 (fun _ => rfl) (by decide) (by omega) (by decide) ?_
      refine zr_iconst i_Mod_tryValue_122 (v := 1) (by decide) ?_
      (refine zR.retE i_Mod_tryValue_123 rfl ?_
       rw [show tryQ (mq ms) code v = ((ms.2 22, upd (ms.2 23) i code, upd (ms.2 24) i v), true) from (by unfold tryQ; rw [show (mq ms).1 100 = nI n from hn, nI_clamp (show n < 2 ^ 31 by omega), show resI (mq ms).2.1 code 1200 n = _ from e]; simp [*, mq])]
       rw [← mres_2]; rfl)
    · skip
      refine zr_iload_n i_Mod_tryValue_27 rfl ?_
      refine zN_if_lt 68 i_Mod_tryValue_28 (by decide) (by omega) ?_
      refine zr_aload_n i_Mod_tryValue_31 rfl ?_
      refine zr_getf i_Mod_tryValue_32 rfl rfl rfl ?_
      refine zr_iload_n i_Mod_tryValue_35 rfl ?_
      refine zr_aload_n i_Mod_tryValue_36 rfl ?_
      refine zr_getf i_Mod_tryValue_37 rfl rfl rfl ?_
      refine zr_iload i_Mod_tryValue_40 rfl ?_
      refine zn_iaload i_Mod_tryValue_42 rfl (by omega) (by decide) ?_
      refine mn_iastore 23 1212 i_Mod_tryValue_43 (fun _ => rfl) (by decide) (by omega) (by decide) ?_
      refine zr_aload_n i_Mod_tryValue_44 rfl ?_
      refine zr_getf i_Mod_tryValue_45 rfl rfl rfl ?_
      refine zr_iload_n i_Mod_tryValue_48 rfl ?_
      refine zr_aload_n i_Mod_tryValue_49 rfl ?_
      refine zr_getf i_Mod_tryValue_50 rfl rfl rfl ?_
      refine zr_iload i_Mod_tryValue_53 rfl ?_
      refine zn_iaload i_Mod_tryValue_55 rfl (by omega) (by decide) ?_
      refine mn_iastore 24 1212 i_Mod_tryValue_56 (fun _ => rfl) (by decide) (by omega) (by decide) ?_
      refine zr_aload_n i_Mod_tryValue_57 rfl ?_
      refine zr_getf i_Mod_tryValue_58 rfl rfl rfl ?_
      refine zn_bipush 100 i_Mod_tryValue_61 (by decide) ?_
      refine zr_dup2 i_Mod_tryValue_63 rfl rfl ?_
      refine zn_iaload i_Mod_tryValue_64 rfl (by omega) (by decide) ?_
      refine zr_top (y := nI n) hn ?_
      refine zn_iconst 1 i_Mod_tryValue_65 (by decide) ?_
      refine zn_isub i_Mod_tryValue_66 (by omega) ?_
      refine mn_iastore 22 101 i_Mod_tryValue_67 (fun _ => rfl) (by decide) (by omega) (by decide) ?_
      refine zr_iconst i_Mod_tryValue_68 (v := 1) (by decide) ?_
      (refine zR.retE i_Mod_tryValue_69 rfl ?_
       rw [show tryQ (mq ms) code v = ((upd (ms.2 22) 100 (nI (n - 1)), upd (ms.2 23) i (ms.2 23 (1200 + n - 1)), upd (ms.2 24) i (ms.2 24 (1200 + n - 1))), true) from (by unfold tryQ; rw [show (mq ms).1 100 = nI n from hn, nI_clamp (show n < 2 ^ 31 by omega), show resI (mq ms).2.1 code 1200 n = _ from e]; simp [*, mq])]
       rw [← mres_3]; rfl))
end
section
/-! THE REFERENCE: wrong results, trying results -/
theorem mseg_b {ms : zMS} {sg : Nat} (hs : ms.2 2 0 = nI sg) (hsl : sg ≤ 200) (a b c : Int32) (i : Nat) (hi : i ≤ sg + 1) : mseg ms a b c i ≤ sg ∧ (mseg ms a b c i = 0 ∨ i ≤ mseg ms a b c i) := by
  unfold mseg
  rw [hs, nI_clamp (by omega)]
  cases e : zfst (mnm ms a b c) i (sg + 1 - i) with
  | none => exact ⟨Nat.zero_le _, Or.inl rfl⟩
  | some t =>
    obtain ⟨h1, h2, -⟩ := zfst_some e
    exact ⟨show t ≤ sg by omega, Or.inr h1⟩
abbrev zV : Type := Int32 → Int32 → Int32 → Int32 → zT
abbrev zSg : Type := Int32 → Int32 → Int32 → Nat → Nat
/-- a value that is neither null nor a number -/
def badV (t : zT) : Bool := !vnull t && !decide (0 ≤ vnum t 4)
def wrongR (V : zV) (s r k : Nat) (w : Bool) : Bool := match k with
  | 0 => w
  | k + 1 => wrongR V s (r + 1) k (w || badV (V (nI s) 2 (nI r) 1))
def wrongS (V : zV) (S : zSg) (obx k : Nat) (w : Bool) : Bool := match k with
  | 0 => w
  | k + 1 => if obx = 0 then w else if w = true then w else wrongS V S (S 79 66 88 (obx + 1)) k (wrongR V obx 1 (repF V obx) (!decide (0 ≤ codeF V obx)))
def wrongF (V : zV) (S : zSg) (sg : Nat) : Bool := wrongS V S (S 79 66 88 1) (sg + 1) (decide (S 79 66 88 1 = 0))
theorem i_Mod_wrongResults_0 : zins 127 0 = some (.aload_n 0) := by decide +kernel
theorem i_Mod_wrongResults_1 : zins 127 1 = some (.bipush 79) := by decide +kernel
theorem i_Mod_wrongResults_3 : zins 127 3 = some (.bipush 66) := by decide +kernel
theorem i_Mod_wrongResults_5 : zins 127 5 = some (.bipush 88) := by decide +kernel
theorem i_Mod_wrongResults_7 : zins 127 7 = some (.iconst 1) := by decide +kernel
theorem i_Mod_wrongResults_8 : zins 127 8 = some (.invokevirtual 165) := by decide +kernel
theorem i_Mod_wrongResults_11 : zins 127 11 = some (.istore_n 1) := by decide +kernel
theorem i_Mod_wrongResults_12 : zins 127 12 = some (.iload_n 1) := by decide +kernel
theorem i_Mod_wrongResults_13 : zins 127 13 = some (.ifCond .ne 7) := by decide +kernel
theorem i_Mod_wrongResults_16 : zins 127 16 = some (.iconst 1) := by decide +kernel
theorem i_Mod_wrongResults_17 : zins 127 17 = some (.goto 4) := by decide +kernel
theorem i_Mod_wrongResults_20 : zins 127 20 = some (.iconst 0) := by decide +kernel
theorem i_Mod_wrongResults_21 : zins 127 21 = some (.istore_n 2) := by decide +kernel
theorem i_Mod_wrongResults_22 : zins 127 22 = some (.iload_n 1) := by decide +kernel
theorem i_Mod_wrongResults_23 : zins 127 23 = some (.ifCond .le 95) := by decide +kernel
theorem i_Mod_wrongResults_26 : zins 127 26 = some (.iload_n 2) := by decide +kernel
theorem i_Mod_wrongResults_27 : zins 127 27 = some (.ifCond .ne 91) := by decide +kernel
theorem i_Mod_wrongResults_30 : zins 127 30 = some (.aload_n 0) := by decide +kernel
theorem i_Mod_wrongResults_31 : zins 127 31 = some (.iload_n 1) := by decide +kernel
theorem i_Mod_wrongResults_32 : zins 127 32 = some (.invokevirtual 169) := by decide +kernel
theorem i_Mod_wrongResults_35 : zins 127 35 = some (.ifCond .ge 7) := by decide +kernel
theorem i_Mod_wrongResults_38 : zins 127 38 = some (.iconst 1) := by decide +kernel
theorem i_Mod_wrongResults_39 : zins 127 39 = some (.goto 4) := by decide +kernel
theorem i_Mod_wrongResults_42 : zins 127 42 = some (.iconst 0) := by decide +kernel
theorem i_Mod_wrongResults_43 : zins 127 43 = some (.istore_n 2) := by decide +kernel
theorem i_Mod_wrongResults_44 : zins 127 44 = some (.iconst 1) := by decide +kernel
theorem i_Mod_wrongResults_45 : zins 127 45 = some (.istore_n 3) := by decide +kernel
theorem i_Mod_wrongResults_46 : zins 127 46 = some (.iload_n 3) := by decide +kernel
theorem i_Mod_wrongResults_47 : zins 127 47 = some (.aload_n 0) := by decide +kernel
theorem i_Mod_wrongResults_48 : zins 127 48 = some (.iload_n 1) := by decide +kernel
theorem i_Mod_wrongResults_49 : zins 127 49 = some (.invokevirtual 172) := by decide +kernel
theorem i_Mod_wrongResults_52 : zins 127 52 = some (.if_icmp .gt 49) := by decide +kernel
theorem i_Mod_wrongResults_55 : zins 127 55 = some (.aload_n 0) := by decide +kernel
theorem i_Mod_wrongResults_56 : zins 127 56 = some (.iconst 0) := by decide +kernel
theorem i_Mod_wrongResults_57 : zins 127 57 = some (.iload_n 1) := by decide +kernel
theorem i_Mod_wrongResults_58 : zins 127 58 = some (.iconst 2) := by decide +kernel
theorem i_Mod_wrongResults_59 : zins 127 59 = some (.iload_n 3) := by decide +kernel
theorem i_Mod_wrongResults_60 : zins 127 60 = some (.iconst 1) := by decide +kernel
theorem i_Mod_wrongResults_61 : zins 127 61 = some (.invokevirtual 153) := by decide +kernel
theorem i_Mod_wrongResults_64 : zins 127 64 = some (.istore 4) := by decide +kernel
theorem i_Mod_wrongResults_66 : zins 127 66 = some (.iload_n 2) := by decide +kernel
theorem i_Mod_wrongResults_67 : zins 127 67 = some (.ifCond .ne 22) := by decide +kernel
theorem i_Mod_wrongResults_70 : zins 127 70 = some (.aload_n 0) := by decide +kernel
theorem i_Mod_wrongResults_71 : zins 127 71 = some (.iload 4) := by decide +kernel
theorem i_Mod_wrongResults_73 : zins 127 73 = some (.invokevirtual 175) := by decide +kernel
theorem i_Mod_wrongResults_76 : zins 127 76 = some (.ifCond .ne 17) := by decide +kernel
theorem i_Mod_wrongResults_79 : zins 127 79 = some (.aload_n 0) := by decide +kernel
theorem i_Mod_wrongResults_80 : zins 127 80 = some (.iload 4) := by decide +kernel
theorem i_Mod_wrongResults_82 : zins 127 82 = some (.iconst 4) := by decide +kernel
theorem i_Mod_wrongResults_83 : zins 127 83 = some (.invokevirtual 161) := by decide +kernel
theorem i_Mod_wrongResults_86 : zins 127 86 = some (.ifCond .ge 7) := by decide +kernel
theorem i_Mod_wrongResults_89 : zins 127 89 = some (.iconst 1) := by decide +kernel
theorem i_Mod_wrongResults_90 : zins 127 90 = some (.goto 4) := by decide +kernel
theorem i_Mod_wrongResults_93 : zins 127 93 = some (.iconst 0) := by decide +kernel
theorem i_Mod_wrongResults_94 : zins 127 94 = some (.istore_n 2) := by decide +kernel
theorem i_Mod_wrongResults_95 : zins 127 95 = some (.iinc 3 1) := by decide +kernel
theorem i_Mod_wrongResults_98 : zins 127 98 = some (.goto (-52)) := by decide +kernel
theorem i_Mod_wrongResults_101 : zins 127 101 = some (.aload_n 0) := by decide +kernel
theorem i_Mod_wrongResults_102 : zins 127 102 = some (.bipush 79) := by decide +kernel
theorem i_Mod_wrongResults_104 : zins 127 104 = some (.bipush 66) := by decide +kernel
theorem i_Mod_wrongResults_106 : zins 127 106 = some (.bipush 88) := by decide +kernel
theorem i_Mod_wrongResults_108 : zins 127 108 = some (.iload_n 1) := by decide +kernel
theorem i_Mod_wrongResults_109 : zins 127 109 = some (.iconst 1) := by decide +kernel
theorem i_Mod_wrongResults_110 : zins 127 110 = some (.iadd) := by decide +kernel
theorem i_Mod_wrongResults_111 : zins 127 111 = some (.invokevirtual 165) := by decide +kernel
theorem i_Mod_wrongResults_114 : zins 127 114 = some (.istore_n 1) := by decide +kernel
theorem i_Mod_wrongResults_115 : zins 127 115 = some (.goto (-93)) := by decide +kernel
theorem i_Mod_wrongResults_118 : zins 127 118 = some (.iload_n 2) := by decide +kernel
theorem i_Mod_wrongResults_119 : zins 127 119 = some (.ireturn) := by decide +kernel
theorem l_Mod_wrongResults (X : zX) (d : Nat) (g : zH) (ms : zMS) (cnt : Nat) (hT : mTV ms 0 cnt) (hR : ∀ s : Nat, mfind ms 0 (nI s) 2 (nI 222) 1 = none) (obx : Nat) (u : Option Value × zH) : ∀ (k r : Nat) (w : Bool) (x : Option Value), r + k = repF (mV ms) obx + 1 → (∀ x, zR X (d + 3) 127 101 [some (.ref 129), some (.int (nI obx)), some (.int (zb (wrongR (mV ms) obx r k w))), some (.int (nI (repF (mV ms) obx + 1))), x] [] (mset g ms) u) → zR X (d + 3) 127 46 [some (.ref 129), some (.int (nI obx)), some (.int (zb w)), some (.int (nI r)), x] [] (mset g ms) u := by
  have hrep : repF (mV ms) obx ≤ 221 := (repL_le (mV ms) (nI obx) 220 1).2
  intro k
  induction k with
  | zero =>
    intro r w x hik K
    have hr : r = repF (mV ms) obx + 1 := by omega
    subst hr
    refine zr_iload_n i_Mod_wrongResults_46 rfl ?_
    refine zr_aload_n i_Mod_wrongResults_47 rfl ?_
    refine zr_iload_n i_Mod_wrongResults_48 rfl ?_
    refine zr_cv1 i_Mod_wrongResults_49 rfl (by decide) rfl (Nat.le_of_ble_eq_true rfl) (Nat.le_of_ble_eq_true rfl) (e_Mod_repetitions X _ g ms cnt hT hR _) ?_
    refine zn_icmp_gt 101 i_Mod_wrongResults_52 (by decide) (by omega) (by omega) (fun c_52 => ?_) (fun q => absurd q (by first | assumption | omega | simp_all))
    exact K _
  | succ k ih =>
    intro r w x hik K
    refine zr_iload_n i_Mod_wrongResults_46 rfl ?_
    refine zr_aload_n i_Mod_wrongResults_47 rfl ?_
    refine zr_iload_n i_Mod_wrongResults_48 rfl ?_
    refine zr_cv1 i_Mod_wrongResults_49 rfl (by decide) rfl (Nat.le_of_ble_eq_true rfl) (Nat.le_of_ble_eq_true rfl) (e_Mod_repetitions X _ g ms cnt hT hR _) ?_
    refine zn_icmp_gt 101 i_Mod_wrongResults_52 (by decide) (by omega) (by omega) (fun q => absurd q (by first | assumption | omega | simp_all)) (fun c_52 => ?_)
    refine zr_aload_n i_Mod_wrongResults_55 rfl ?_
    refine zn_iconst 0 i_Mod_wrongResults_56 (by decide) ?_
    refine zr_iload_n i_Mod_wrongResults_57 rfl ?_
    refine zr_iconst i_Mod_wrongResults_58 (v := 2) (by decide) ?_
    refine zr_iload_n i_Mod_wrongResults_59 rfl ?_
    refine zr_iconst i_Mod_wrongResults_60 (v := 1) (by decide) ?_
    refine zr_cv5 i_Mod_wrongResults_61 rfl (by decide) rfl (Nat.le_of_ble_eq_true rfl) (Nat.le_of_ble_eq_true rfl) (e_Mod_find X _ g ms 0 cnt _ _ _ _ (by decide) hT.1 hT.2.1) ?_
    refine zr_istore i_Mod_wrongResults_64 rfl ?_
    refine zr_iload_n i_Mod_wrongResults_66 rfl ?_
    refine zB_if_ne 89 i_Mod_wrongResults_67 (by decide) (fun c_67 => ?_) (fun c_67 => ?_)
    · skip
      refine zr_iconst i_Mod_wrongResults_89 (v := 1) (by decide) ?_
      refine zr_goto 94 i_Mod_wrongResults_90 (by decide) ?_
      refine zr_istore_n i_Mod_wrongResults_94 rfl ?_
      refine zn_iinc i_Mod_wrongResults_95 rfl rfl ?_
      refine zr_goto 46 i_Mod_wrongResults_98 (by decide) ?_
      (rw [wrongR] at K; have e : (w || badV (mV ms (nI obx) 2 (nI r) 1)) = true := by simp [badV, mV, *]
       rw [e] at K; exact ih (r + 1) true _ (by omega) K)
    · skip
      refine zr_aload_n i_Mod_wrongResults_70 rfl ?_
      refine zr_iload i_Mod_wrongResults_71 rfl ?_
      refine zr_cv1 i_Mod_wrongResults_73 rfl (by decide) rfl (Nat.le_of_ble_eq_true rfl) (Nat.le_of_ble_eq_true rfl) (v_isNull X _ g ms _ (mto_find hT _ _ _ _)) ?_
      refine zB_if_ne 93 i_Mod_wrongResults_76 (by decide) (fun c_76 => ?_) (fun c_76 => ?_)
      · skip
        refine zr_iconst i_Mod_wrongResults_93 (v := 0) (by decide) ?_
        refine zr_istore_n i_Mod_wrongResults_94 rfl ?_
        refine zn_iinc i_Mod_wrongResults_95 rfl rfl ?_
        refine zr_goto 46 i_Mod_wrongResults_98 (by decide) ?_
        (rw [wrongR] at K; have e : (w || badV (mV ms (nI obx) 2 (nI r) 1)) = false := by simp [badV, mV, *]
         rw [e] at K; exact ih (r + 1) false _ (by omega) K)
      · skip
        refine zr_aload_n i_Mod_wrongResults_79 rfl ?_
        refine zr_iload i_Mod_wrongResults_80 rfl ?_
        refine zn_iconst 4 i_Mod_wrongResults_82 (by decide) ?_
        refine zr_cv2 i_Mod_wrongResults_83 rfl (by decide) rfl (Nat.le_of_ble_eq_true rfl) (Nat.le_of_ble_eq_true rfl) (v_number X _ g ms _ (mto_find hT _ _ _ _) _ (by decide)) ?_
        refine zr_if_ge 93 i_Mod_wrongResults_86 (by decide) (fun c_86 => ?_) (fun c_86 => ?_)
        · skip
          refine zr_iconst i_Mod_wrongResults_93 (v := 0) (by decide) ?_
          refine zr_istore_n i_Mod_wrongResults_94 rfl ?_
          refine zn_iinc i_Mod_wrongResults_95 rfl rfl ?_
          refine zr_goto 46 i_Mod_wrongResults_98 (by decide) ?_
          (rw [wrongR] at K; have e : (w || badV (mV ms (nI obx) 2 (nI r) 1)) = false := by simp [badV, mV, *]
           rw [e] at K; exact ih (r + 1) false _ (by omega) K)
        · skip
          refine zr_iconst i_Mod_wrongResults_89 (v := 1) (by decide) ?_
          refine zr_goto 94 i_Mod_wrongResults_90 (by decide) ?_
          refine zr_istore_n i_Mod_wrongResults_94 rfl ?_
          refine zn_iinc i_Mod_wrongResults_95 rfl rfl ?_
          refine zr_goto 46 i_Mod_wrongResults_98 (by decide) ?_
          (rw [wrongR] at K; have e : (w || badV (mV ms (nI obx) 2 (nI r) 1)) = true := by simp [badV, mV, *]
           rw [e] at K; exact ih (r + 1) true _ (by omega) K)
theorem m_Mod_wrongResults (X : zX) (d : Nat) (g : zH) (ms : zMS) (cnt : Nat) (hT : mTV ms 0 cnt) (hR : ∀ s : Nat, mfind ms 0 (nI s) 2 (nI 222) 1 = none) (sg : Nat) (hs : ms.2 2 0 = nI sg) (hsl : sg ≤ 200) : ∀ (k obx : Nat) (w : Bool) (x3 x4 : Option Value), obx ≤ sg → (obx = 0 ∨ sg < obx + k) → zR X (d + 3) 127 22 [some (.ref 129), some (.int (nI obx)), some (.int (zb w)), x3, x4] [] (mset g ms) (some (.int (zb (wrongS (mV ms) (mseg ms) obx k w))), mset g ms) := by
  intro k
  induction k with
  | zero =>
    intro obx w x3 x4 h1 h2
    have h0 : obx = 0 := by omega
    subst h0
    refine zr_iload_n i_Mod_wrongResults_22 rfl ?_
    refine zr_if_le 118 i_Mod_wrongResults_23 (by decide) (fun _ => ?_) (fun q => absurd (by decide) q)
    refine zr_iload_n i_Mod_wrongResults_118 rfl ?_
    exact zR.retE i_Mod_wrongResults_119 (zretB _) rfl
  | succ k ih =>
    intro obx w x3 x4 h1 h2
    refine zr_iload_n i_Mod_wrongResults_22 rfl ?_
    refine zN_if_le 118 i_Mod_wrongResults_23 (by decide) (by omega) (fun c_23 => ?_) (fun c_23 => ?_)
    · skip
      refine zr_iload_n i_Mod_wrongResults_118 rfl ?_
      exact zR.retE i_Mod_wrongResults_119 (zretB _) (by rw [wrongS]; simp [*])
    · skip
      refine zr_iload_n i_Mod_wrongResults_26 rfl ?_
      refine zB_if_ne 118 i_Mod_wrongResults_27 (by decide) (fun c_27 => ?_) (fun c_27 => ?_)
      · skip
        refine zr_iload_n i_Mod_wrongResults_118 rfl ?_
        exact zR.retE i_Mod_wrongResults_119 (zretB _) (by rw [wrongS]; simp [*])
      · skip
        refine zr_aload_n i_Mod_wrongResults_30 rfl ?_
        refine zr_iload_n i_Mod_wrongResults_31 rfl ?_
        refine zr_cv1 i_Mod_wrongResults_32 rfl (by decide) rfl (Nat.le_of_ble_eq_true rfl) (Nat.le_of_ble_eq_true rfl) (e_Mod_codeIn X _ g ms cnt hT _ (by omega)) ?_
        refine zr_if_ge 42 i_Mod_wrongResults_35 (by decide) (fun c_35 => ?_) (fun c_35 => ?_)
        · skip
          refine zr_iconst i_Mod_wrongResults_42 (v := 0) (by decide) ?_
          refine zr_istore_n i_Mod_wrongResults_43 rfl ?_
          refine zn_iconst 1 i_Mod_wrongResults_44 (by decide) ?_
          refine zr_istore_n i_Mod_wrongResults_45 rfl ?_
          (refine l_Mod_wrongResults X d g ms cnt hT hR obx _ (repF (mV ms) obx) 1 false _ (by omega) (fun x => ?_)
           have hb := mseg_b hs hsl 79 66 88 (obx + 1) (by omega)
           refine zr_aload_n i_Mod_wrongResults_101 rfl ?_
           refine zr_bipush i_Mod_wrongResults_102 (v := 79) (by decide) ?_
           refine zr_bipush i_Mod_wrongResults_104 (v := 66) (by decide) ?_
           refine zr_bipush i_Mod_wrongResults_106 (v := 88) (by decide) ?_
           refine zr_iload_n i_Mod_wrongResults_108 rfl ?_
           refine zn_iconst 1 i_Mod_wrongResults_109 (by decide) ?_
           refine zn_iadd i_Mod_wrongResults_110 ?_
           refine zr_cv4 i_Mod_wrongResults_111 rfl (by decide) rfl (Nat.le_of_ble_eq_true rfl) (Nat.le_of_ble_eq_true rfl) (e_Mod_segment X _ g ms sg _ _ _ _ hs hsl (by omega) (by omega)) ?_
           refine zr_istore_n i_Mod_wrongResults_114 rfl ?_
           refine zr_goto 22 i_Mod_wrongResults_115 (by decide) ?_
           (have e : (!decide (0 ≤ codeF (mV ms) obx)) = false := by simp [*]
            rw [wrongS, if_neg (by omega), if_neg (by simp [*]), e]
            exact ih (mseg ms 79 66 88 (obx + 1)) _ _ _ (by omega) (by omega)))
        · skip
          refine zr_iconst i_Mod_wrongResults_38 (v := 1) (by decide) ?_
          refine zr_goto 43 i_Mod_wrongResults_39 (by decide) ?_
          refine zr_istore_n i_Mod_wrongResults_43 rfl ?_
          refine zn_iconst 1 i_Mod_wrongResults_44 (by decide) ?_
          refine zr_istore_n i_Mod_wrongResults_45 rfl ?_
          (refine l_Mod_wrongResults X d g ms cnt hT hR obx _ (repF (mV ms) obx) 1 true _ (by omega) (fun x => ?_)
           have hb := mseg_b hs hsl 79 66 88 (obx + 1) (by omega)
           refine zr_aload_n i_Mod_wrongResults_101 rfl ?_
           refine zr_bipush i_Mod_wrongResults_102 (v := 79) (by decide) ?_
           refine zr_bipush i_Mod_wrongResults_104 (v := 66) (by decide) ?_
           refine zr_bipush i_Mod_wrongResults_106 (v := 88) (by decide) ?_
           refine zr_iload_n i_Mod_wrongResults_108 rfl ?_
           refine zn_iconst 1 i_Mod_wrongResults_109 (by decide) ?_
           refine zn_iadd i_Mod_wrongResults_110 ?_
           refine zr_cv4 i_Mod_wrongResults_111 rfl (by decide) rfl (Nat.le_of_ble_eq_true rfl) (Nat.le_of_ble_eq_true rfl) (e_Mod_segment X _ g ms sg _ _ _ _ hs hsl (by omega) (by omega)) ?_
           refine zr_istore_n i_Mod_wrongResults_114 rfl ?_
           refine zr_goto 22 i_Mod_wrongResults_115 (by decide) ?_
           (have e : (!decide (0 ≤ codeF (mV ms) obx)) = true := by simp [*]
            rw [wrongS, if_neg (by omega), if_neg (by simp [*]), e]
            exact ih (mseg ms 79 66 88 (obx + 1)) _ _ _ (by omega) (by omega)))
theorem e_Mod_wrongResults (X : zX) (d : Nat) (g : zH) (ms : zMS) (cnt : Nat) (hT : mTV ms 0 cnt) (hR : ∀ s : Nat, mfind ms 0 (nI s) 2 (nI 222) 1 = none) (sg : Nat) (hs : ms.2 2 0 = nI sg) (hsl : sg ≤ 200) : zR X (d + 3) 127 0 (zent 5 [.ref 129]) [] (mset g ms) (some (.int (zb (wrongF (mV ms) (mseg ms) sg))), mset g ms) := by
  have hb := mseg_b hs hsl 79 66 88 1 (by omega)
  refine zr_aload_n i_Mod_wrongResults_0 rfl ?_
  refine zr_bipush i_Mod_wrongResults_1 (v := 79) (by decide) ?_
  refine zr_bipush i_Mod_wrongResults_3 (v := 66) (by decide) ?_
  refine zr_bipush i_Mod_wrongResults_5 (v := 88) (by decide) ?_
  refine zn_iconst 1 i_Mod_wrongResults_7 (by decide) ?_
  refine zr_cv4 i_Mod_wrongResults_8 rfl (by decide) rfl (Nat.le_of_ble_eq_true rfl) (Nat.le_of_ble_eq_true rfl) (e_Mod_segment X _ g ms sg _ _ _ _ hs hsl (by omega) (by omega)) ?_
  refine zr_istore_n i_Mod_wrongResults_11 rfl ?_
  refine zr_iload_n i_Mod_wrongResults_12 rfl ?_
  refine zN_if_ne 20 i_Mod_wrongResults_13 (by decide) (by omega) (fun c_13 => ?_) (fun c_13 => ?_)
  · skip
    refine zr_iconst i_Mod_wrongResults_20 (v := 0) (by decide) ?_
    refine zr_istore_n i_Mod_wrongResults_21 rfl ?_
    (unfold wrongF; rw [show decide (mseg ms 79 66 88 1 = 0) = false by simp [*]]
     exact m_Mod_wrongResults X d g ms cnt hT hR sg hs hsl (sg + 1) _ false _ _ (by omega) (by omega))
  · skip
    refine zr_iconst i_Mod_wrongResults_16 (v := 1) (by decide) ?_
    refine zr_goto 21 i_Mod_wrongResults_17 (by decide) ?_
    refine zr_istore_n i_Mod_wrongResults_21 rfl ?_
    (unfold wrongF; rw [show decide (mseg ms 79 66 88 1 = 0) = true by simp [*]]
     exact m_Mod_wrongResults X d g ms cnt hT hR sg hs hsl (sg + 1) _ true _ _ (by omega) (by omega))
def tryR (V : zV) (s r k : Nat) (q : zQ × Bool) : zQ × Bool := match k with
  | 0 => q
  | k + 1 => tryR V s (r + 1) k (if q.2 = true then tryQ q.1 (codeF V s) (vnum (V (nI s) 2 (nI r) 1) 4) else q)
def tryS (V : zV) (S : zSg) (obx k : Nat) (q : zQ × Bool) : zQ × Bool := match k with
  | 0 => q
  | k + 1 => if obx = 0 then q else tryS V S (S 79 66 88 (obx + 1)) k (tryR V obx 1 (repF V obx) q)
def tryF (V : zV) (S : zSg) (sg p : Nat) (q : zQ) : zQ × Bool := tryS V S (S 79 66 88 1) (sg + 1) (copyQ q p 100, true)
def qok (q : zQ) : Prop := ∃ n, q.1 100 = nI n ∧ n ≤ 12
theorem i_Mod_tryResults_0 : zins 131 0 = some (.aload_n 0) := by decide +kernel
theorem i_Mod_tryResults_1 : zins 131 1 = some (.iload_n 1) := by decide +kernel
theorem i_Mod_tryResults_2 : zins 131 2 = some (.bipush 100) := by decide +kernel
theorem i_Mod_tryResults_4 : zins 131 4 = some (.invokevirtual 182) := by decide +kernel
theorem i_Mod_tryResults_7 : zins 131 7 = some (.iconst 1) := by decide +kernel
theorem i_Mod_tryResults_8 : zins 131 8 = some (.istore_n 2) := by decide +kernel
theorem i_Mod_tryResults_9 : zins 131 9 = some (.aload_n 0) := by decide +kernel
theorem i_Mod_tryResults_10 : zins 131 10 = some (.bipush 79) := by decide +kernel
theorem i_Mod_tryResults_12 : zins 131 12 = some (.bipush 66) := by decide +kernel
theorem i_Mod_tryResults_14 : zins 131 14 = some (.bipush 88) := by decide +kernel
theorem i_Mod_tryResults_16 : zins 131 16 = some (.iconst 1) := by decide +kernel
theorem i_Mod_tryResults_17 : zins 131 17 = some (.invokevirtual 165) := by decide +kernel
theorem i_Mod_tryResults_20 : zins 131 20 = some (.istore_n 3) := by decide +kernel
theorem i_Mod_tryResults_21 : zins 131 21 = some (.iload_n 3) := by decide +kernel
theorem i_Mod_tryResults_22 : zins 131 22 = some (.ifCond .le 76) := by decide +kernel
theorem i_Mod_tryResults_25 : zins 131 25 = some (.iconst 1) := by decide +kernel
theorem i_Mod_tryResults_26 : zins 131 26 = some (.istore 4) := by decide +kernel
theorem i_Mod_tryResults_28 : zins 131 28 = some (.iload 4) := by decide +kernel
theorem i_Mod_tryResults_30 : zins 131 30 = some (.aload_n 0) := by decide +kernel
theorem i_Mod_tryResults_31 : zins 131 31 = some (.iload_n 3) := by decide +kernel
theorem i_Mod_tryResults_32 : zins 131 32 = some (.invokevirtual 172) := by decide +kernel
theorem i_Mod_tryResults_35 : zins 131 35 = some (.if_icmp .gt 46) := by decide +kernel
theorem i_Mod_tryResults_38 : zins 131 38 = some (.iload_n 2) := by decide +kernel
theorem i_Mod_tryResults_39 : zins 131 39 = some (.ifCond .eq 34) := by decide +kernel
theorem i_Mod_tryResults_42 : zins 131 42 = some (.aload_n 0) := by decide +kernel
theorem i_Mod_tryResults_43 : zins 131 43 = some (.aload_n 0) := by decide +kernel
theorem i_Mod_tryResults_44 : zins 131 44 = some (.iload_n 3) := by decide +kernel
theorem i_Mod_tryResults_45 : zins 131 45 = some (.invokevirtual 169) := by decide +kernel
theorem i_Mod_tryResults_48 : zins 131 48 = some (.aload_n 0) := by decide +kernel
theorem i_Mod_tryResults_49 : zins 131 49 = some (.aload_n 0) := by decide +kernel
theorem i_Mod_tryResults_50 : zins 131 50 = some (.iconst 0) := by decide +kernel
theorem i_Mod_tryResults_51 : zins 131 51 = some (.iload_n 3) := by decide +kernel
theorem i_Mod_tryResults_52 : zins 131 52 = some (.iconst 2) := by decide +kernel
theorem i_Mod_tryResults_53 : zins 131 53 = some (.iload 4) := by decide +kernel
theorem i_Mod_tryResults_55 : zins 131 55 = some (.iconst 1) := by decide +kernel
theorem i_Mod_tryResults_56 : zins 131 56 = some (.invokevirtual 153) := by decide +kernel
theorem i_Mod_tryResults_59 : zins 131 59 = some (.iconst 4) := by decide +kernel
theorem i_Mod_tryResults_60 : zins 131 60 = some (.invokevirtual 161) := by decide +kernel
theorem i_Mod_tryResults_63 : zins 131 63 = some (.invokevirtual 186) := by decide +kernel
theorem i_Mod_tryResults_66 : zins 131 66 = some (.ifCond .eq 7) := by decide +kernel
theorem i_Mod_tryResults_69 : zins 131 69 = some (.iconst 1) := by decide +kernel
theorem i_Mod_tryResults_70 : zins 131 70 = some (.goto 4) := by decide +kernel
theorem i_Mod_tryResults_73 : zins 131 73 = some (.iconst 0) := by decide +kernel
theorem i_Mod_tryResults_74 : zins 131 74 = some (.istore_n 2) := by decide +kernel
theorem i_Mod_tryResults_75 : zins 131 75 = some (.iinc 4 1) := by decide +kernel
theorem i_Mod_tryResults_78 : zins 131 78 = some (.goto (-50)) := by decide +kernel
theorem i_Mod_tryResults_81 : zins 131 81 = some (.aload_n 0) := by decide +kernel
theorem i_Mod_tryResults_82 : zins 131 82 = some (.bipush 79) := by decide +kernel
theorem i_Mod_tryResults_84 : zins 131 84 = some (.bipush 66) := by decide +kernel
theorem i_Mod_tryResults_86 : zins 131 86 = some (.bipush 88) := by decide +kernel
theorem i_Mod_tryResults_88 : zins 131 88 = some (.iload_n 3) := by decide +kernel
theorem i_Mod_tryResults_89 : zins 131 89 = some (.iconst 1) := by decide +kernel
theorem i_Mod_tryResults_90 : zins 131 90 = some (.iadd) := by decide +kernel
theorem i_Mod_tryResults_91 : zins 131 91 = some (.invokevirtual 165) := by decide +kernel
theorem i_Mod_tryResults_94 : zins 131 94 = some (.istore_n 3) := by decide +kernel
theorem i_Mod_tryResults_95 : zins 131 95 = some (.goto (-74)) := by decide +kernel
theorem i_Mod_tryResults_98 : zins 131 98 = some (.iload_n 2) := by decide +kernel
theorem i_Mod_tryResults_99 : zins 131 99 = some (.ireturn) := by decide +kernel
theorem l_Mod_tryResults (X : zX) (d : Nat) (g : zH) (ms : zMS) (cnt : Nat) (hT : mTV ms 0 cnt) (hR : ∀ s : Nat, mfind ms 0 (nI s) 2 (nI 222) 1 = none) (p obx : Nat) (ho : obx < 2 ^ 30) (u : Option Value × zH) : ∀ (k r : Nat) (q : zQ) (ok : Bool), r + k = repF (mV ms) obx + 1 → qok q → (qok (tryR (mV ms) obx r k (q, ok)).1 → zR X (d + 3) 131 81 [some (.ref 129), some (.int (nI p)), some (.int (zb (tryR (mV ms) obx r k (q, ok)).2)), some (.int (nI obx)), some (.int (nI (repF (mV ms) obx + 1)))] [] (mset g (mres ms (tryR (mV ms) obx r k (q, ok)).1)) u) → zR X (d + 3) 131 28 [some (.ref 129), some (.int (nI p)), some (.int (zb ok)), some (.int (nI obx)), some (.int (nI r))] [] (mset g (mres ms q)) u := by
  have hrep : repF (mV ms) obx ≤ 221 := (repL_le (mV ms) (nI obx) 220 1).2
  have hrep' : repF (mV (mres ms (mq ms))) obx = repF (mV ms) obx := rfl
  intro k
  induction k with
  | zero =>
    intro r q ok hik hQ K
    have hr : r = repF (mV ms) obx + 1 := by omega
    subst hr
    refine zr_iload i_Mod_tryResults_28 rfl ?_
    refine zr_aload_n i_Mod_tryResults_30 rfl ?_
    refine zr_iload_n i_Mod_tryResults_31 rfl ?_
    refine zr_cv1 i_Mod_tryResults_32 rfl (by decide) rfl (Nat.le_of_ble_eq_true rfl) (Nat.le_of_ble_eq_true rfl) (e_Mod_repetitions X _ g (mres ms q) cnt hT hR _) ?_
    refine zr_top (y := nI (repF (mV ms) obx)) rfl ?_
    refine zn_icmp_gt 81 i_Mod_tryResults_35 (by decide) (by omega) (by omega) (fun c_35 => ?_) (fun q => absurd q (by first | assumption | omega | simp_all))
    exact K hQ
  | succ k ih =>
    intro r q ok hik hQ K
    obtain ⟨nq, hq, hql⟩ := id hQ
    refine zr_iload i_Mod_tryResults_28 rfl ?_
    refine zr_aload_n i_Mod_tryResults_30 rfl ?_
    refine zr_iload_n i_Mod_tryResults_31 rfl ?_
    refine zr_cv1 i_Mod_tryResults_32 rfl (by decide) rfl (Nat.le_of_ble_eq_true rfl) (Nat.le_of_ble_eq_true rfl) (e_Mod_repetitions X _ g (mres ms q) cnt hT hR _) ?_
    refine zr_top (y := nI (repF (mV ms) obx)) rfl ?_
    refine zn_icmp_gt 81 i_Mod_tryResults_35 (by decide) (by omega) (by omega) (fun q => absurd q (by first | assumption | omega | simp_all)) (fun c_35 => ?_)
    refine zr_iload_n i_Mod_tryResults_38 rfl ?_
    refine zB_if_eq 73 i_Mod_tryResults_39 (by decide) (fun c_39 => ?_) (fun c_39 => ?_)
    · skip
      refine zr_iconst i_Mod_tryResults_73 (v := 0) (by decide) ?_
      refine zr_istore_n i_Mod_tryResults_74 rfl ?_
      refine zn_iinc i_Mod_tryResults_75 rfl rfl ?_
      refine zr_goto 28 i_Mod_tryResults_78 (by decide) ?_
      (rw [tryR] at K
       first
       | (rw [if_neg (by simp [*])] at K; have hk : ok = false := by assumption
          subst hk; exact ih (r + 1) q false (by omega) hQ K)
       | (rw [if_pos (by assumption)] at K
          have e3 := tryQ_ok hq hql (codeF (mV ms) obx) (vnum (mV ms (nI obx) 2 (nI r) 1) 4)
          have e4 : (tryQ q (codeF (mV ms) obx) (vnum (mV ms (nI obx) 2 (nI r) 1) 4)).2 = false := by assumption
          have e5 := ih (r + 1) (tryQ q (codeF (mV ms) obx) (vnum (mV ms (nI obx) 2 (nI r) 1) 4)).1 false (by omega) e3 (by rw [← e4]; exact K)
          rw [← mres_res ms q] at e5
          exact e5))
    · skip
      refine zr_aload_n i_Mod_tryResults_42 rfl ?_
      refine zr_aload_n i_Mod_tryResults_43 rfl ?_
      refine zr_iload_n i_Mod_tryResults_44 rfl ?_
      refine zr_cv1 i_Mod_tryResults_45 rfl (by decide) rfl (Nat.le_of_ble_eq_true rfl) (Nat.le_of_ble_eq_true rfl) (e_Mod_codeIn X _ g (mres ms q) cnt hT _ (by omega)) ?_
      refine zr_aload_n i_Mod_tryResults_48 rfl ?_
      refine zr_aload_n i_Mod_tryResults_49 rfl ?_
      refine zn_iconst 0 i_Mod_tryResults_50 (by decide) ?_
      refine zr_iload_n i_Mod_tryResults_51 rfl ?_
      refine zr_iconst i_Mod_tryResults_52 (v := 2) (by decide) ?_
      refine zr_iload i_Mod_tryResults_53 rfl ?_
      refine zr_iconst i_Mod_tryResults_55 (v := 1) (by decide) ?_
      refine zr_cv5 i_Mod_tryResults_56 rfl (by decide) rfl (Nat.le_of_ble_eq_true rfl) (Nat.le_of_ble_eq_true rfl) (e_Mod_find X _ g (mres ms q) 0 cnt _ _ _ _ (by decide) hT.1 hT.2.1) ?_
      refine zn_iconst 4 i_Mod_tryResults_59 (by decide) ?_
      refine zr_cv2 i_Mod_tryResults_60 rfl (by decide) rfl (Nat.le_of_ble_eq_true rfl) (Nat.le_of_ble_eq_true rfl) (v_number X _ g (mres ms q) _ (mto_find (ms := mres ms q) (q := 0) (cnt := cnt) hT _ _ _ _) _ (by decide)) ?_
      refine zr_cv2 i_Mod_tryResults_63 rfl (by decide) rfl (Nat.le_of_ble_eq_true rfl) (Nat.le_of_ble_eq_true rfl) (e_Mod_tryValue X _ g (mres ms q) nq hq hql _ _) ?_
      refine zB_if_eq 73 i_Mod_tryResults_66 (by decide) (fun c_66 => ?_) (fun c_66 => ?_)
      · skip
        refine zr_iconst i_Mod_tryResults_73 (v := 0) (by decide) ?_
        refine zr_istore_n i_Mod_tryResults_74 rfl ?_
        refine zn_iinc i_Mod_tryResults_75 rfl rfl ?_
        refine zr_goto 28 i_Mod_tryResults_78 (by decide) ?_
        (rw [tryR] at K
         first
         | (rw [if_neg (by simp [*])] at K; have hk : ok = false := by assumption
            subst hk; exact ih (r + 1) q false (by omega) hQ K)
         | (rw [if_pos (by assumption)] at K
            have e3 := tryQ_ok hq hql (codeF (mV ms) obx) (vnum (mV ms (nI obx) 2 (nI r) 1) 4)
            have e4 : (tryQ q (codeF (mV ms) obx) (vnum (mV ms (nI obx) 2 (nI r) 1) 4)).2 = false := by assumption
            have e5 := ih (r + 1) (tryQ q (codeF (mV ms) obx) (vnum (mV ms (nI obx) 2 (nI r) 1) 4)).1 false (by omega) e3 (by rw [← e4]; exact K)
            rw [← mres_res ms q] at e5
            exact e5))
      · skip
        refine zr_iconst i_Mod_tryResults_69 (v := 1) (by decide) ?_
        refine zr_goto 74 i_Mod_tryResults_70 (by decide) ?_
        refine zr_istore_n i_Mod_tryResults_74 rfl ?_
        refine zn_iinc i_Mod_tryResults_75 rfl rfl ?_
        refine zr_goto 28 i_Mod_tryResults_78 (by decide) ?_
        (rw [tryR] at K
         first
         | (rw [if_neg (by simp [*])] at K; have hk : ok = false := by assumption
            subst hk; exact ih (r + 1) q false (by omega) hQ K)
         | (rw [if_pos (by assumption)] at K
            have e3 := tryQ_ok hq hql (codeF (mV ms) obx) (vnum (mV ms (nI obx) 2 (nI r) 1) 4)
            have e4 : (tryQ q (codeF (mV ms) obx) (vnum (mV ms (nI obx) 2 (nI r) 1) 4)).2 = true := by assumption
            have e5 := ih (r + 1) (tryQ q (codeF (mV ms) obx) (vnum (mV ms (nI obx) 2 (nI r) 1) 4)).1 true (by omega) e3 (by rw [← e4]; exact K)
            rw [← mres_res ms q] at e5
            exact e5))
theorem m_Mod_tryResults (X : zX) (d : Nat) (g : zH) (ms : zMS) (cnt : Nat) (hT : mTV ms 0 cnt) (hR : ∀ s : Nat, mfind ms 0 (nI s) 2 (nI 222) 1 = none) (sg : Nat) (hs : ms.2 2 0 = nI sg) (hsl : sg ≤ 200) (p : Nat) : ∀ (k obx : Nat) (q : zQ) (ok : Bool) (x4 : Option Value), obx ≤ sg → (obx = 0 ∨ sg < obx + k) → qok q → zR X (d + 3) 131 21 [some (.ref 129), some (.int (nI p)), some (.int (zb ok)), some (.int (nI obx)), x4] [] (mset g (mres ms q)) (some (.int (zb (tryS (mV ms) (mseg ms) obx k (q, ok)).2)), mset g (mres ms (tryS (mV ms) (mseg ms) obx k (q, ok)).1)) := by
  intro k
  induction k with
  | zero =>
    intro obx q ok x4 h1 h2 hQ
    have h0 : obx = 0 := by omega
    subst h0
    refine zr_iload_n i_Mod_tryResults_21 rfl ?_
    refine zr_if_le 98 i_Mod_tryResults_22 (by decide) (fun _ => ?_) (fun q => absurd (by decide) q)
    refine zr_iload_n i_Mod_tryResults_98 rfl ?_
    exact zR.retE i_Mod_tryResults_99 (zretB _) rfl
  | succ k ih =>
    intro obx q ok x4 h1 h2 hQ
    refine zr_iload_n i_Mod_tryResults_21 rfl ?_
    refine zN_if_le 98 i_Mod_tryResults_22 (by decide) (by omega) (fun c_22 => ?_) (fun c_22 => ?_)
    · skip
      refine zr_iload_n i_Mod_tryResults_98 rfl ?_
      exact zR.retE i_Mod_tryResults_99 (zretB _) (by rw [tryS]; simp [*])
    · skip
      refine zn_iconst 1 i_Mod_tryResults_25 (by decide) ?_
      refine zr_istore i_Mod_tryResults_26 rfl ?_
      (refine l_Mod_tryResults X d g ms cnt hT hR p obx (by omega) _ (repF (mV ms) obx) 1 q ok (by omega) hQ (fun hQ2 => ?_)
       have hb := mseg_b hs hsl 79 66 88 (obx + 1) (by omega)
       generalize hgg : tryR (mV ms) obx 1 (repF (mV ms) obx) (q, ok) = q2 at hQ2
       obtain ⟨q, ok⟩ := q2
       refine zr_aload_n i_Mod_tryResults_81 rfl ?_
       refine zr_bipush i_Mod_tryResults_82 (v := 79) (by decide) ?_
       refine zr_bipush i_Mod_tryResults_84 (v := 66) (by decide) ?_
       refine zr_bipush i_Mod_tryResults_86 (v := 88) (by decide) ?_
       refine zr_iload_n i_Mod_tryResults_88 rfl ?_
       refine zn_iconst 1 i_Mod_tryResults_89 (by decide) ?_
       refine zn_iadd i_Mod_tryResults_90 ?_
       refine zr_cv4 i_Mod_tryResults_91 rfl (by decide) rfl (Nat.le_of_ble_eq_true rfl) (Nat.le_of_ble_eq_true rfl) (e_Mod_segment X _ g (mres ms q) sg _ _ _ _ hs hsl (by omega) (by omega)) ?_
       refine zr_istore_n i_Mod_tryResults_94 rfl ?_
       refine zr_goto 21 i_Mod_tryResults_95 (by decide) ?_
       (rw [tryS, if_neg (by omega), hgg]
        exact ih (mseg ms 79 66 88 (obx + 1)) q ok _ (by omega) (by omega) hQ2))
theorem e_Mod_tryResults (X : zX) (d : Nat) (g : zH) (ms : zMS) (cnt : Nat) (hT : mTV ms 0 cnt) (hR : ∀ s : Nat, mfind ms 0 (nI s) 2 (nI 222) 1 = none) (sg : Nat) (hs : ms.2 2 0 = nI sg) (hsl : sg ≤ 200) (p nr : Nat) (hp : p ≤ 99) (hn : ms.2 22 p = nI nr) (hnl : nr ≤ 12) : zR X (d + 3) 131 0 (zent 5 [.ref 129, .int (nI p)]) [] (mset g ms) (some (.int (zb (tryF (mV ms) (mseg ms) sg p (mq ms)).2)), mset g (mres ms (tryF (mV ms) (mseg ms) sg p (mq ms)).1)) := by
  have hb := mseg_b hs hsl 79 66 88 1 (by omega)
  have hQ : qok (copyQ (mq ms) p 100) := ⟨nr, (pk_us : upd (ms.2 22) 100 (ms.2 22 p) 100 = _).trans hn, hnl⟩
  refine zr_aload_n i_Mod_tryResults_0 rfl ?_
  refine zr_iload_n i_Mod_tryResults_1 rfl ?_
  refine zr_bipush i_Mod_tryResults_2 (v := 100) (by decide) ?_
  refine zr_cv20 i_Mod_tryResults_4 rfl (by decide) rfl (Nat.le_of_ble_eq_true rfl) (Nat.le_of_ble_eq_true rfl) (e_Mod_copyResults X _ g ms p 100 (by omega) (by decide) (by omega)) ?_
  refine zr_iconst i_Mod_tryResults_7 (v := 1) (by decide) ?_
  refine zr_istore_n i_Mod_tryResults_8 rfl ?_
  refine zr_aload_n i_Mod_tryResults_9 rfl ?_
  refine zr_bipush i_Mod_tryResults_10 (v := 79) (by decide) ?_
  refine zr_bipush i_Mod_tryResults_12 (v := 66) (by decide) ?_
  refine zr_bipush i_Mod_tryResults_14 (v := 88) (by decide) ?_
  refine zn_iconst 1 i_Mod_tryResults_16 (by decide) ?_
  refine zr_cv4 i_Mod_tryResults_17 rfl (by decide) rfl (Nat.le_of_ble_eq_true rfl) (Nat.le_of_ble_eq_true rfl) (e_Mod_segment X _ g (mres ms (copyQ (mq ms) p 100)) sg _ _ _ _ hs hsl (by omega) (by omega)) ?_
  refine zr_istore_n i_Mod_tryResults_20 rfl ?_
  exact m_Mod_tryResults X d g ms cnt hT hR sg hs hsl p (sg + 1) (mseg ms 79 66 88 1) (copyQ (mq ms) p 100) true _ (by omega) (by omega) hQ
end
section
/-! THE REFERENCE: judging and acting -/
def zpas (f : Nat → Int32) (b : Nat) (h : Nat → Int32) (n j : Nat) : Int32 := if b ≤ j ∧ j < b + n then h (j - b) else f j
theorem zpas_0 {f h : Nat → Int32} {b : Nat} : zpas f b h 0 = f := by
  funext j
  exact if_neg (by omega)
theorem zpas_s {f h : Nat → Int32} {b i : Nat} : upd (zpas f b h i) (b + i) (h i) = zpas f b h (i + 1) := by
  funext j
  unfold zpas
  by_cases h1 : j = b + i
  · subst h1
    rw [pk_us, if_pos (by omega), Nat.add_sub_cancel_left]
  · rw [pk_un h1]
    by_cases h2 : b ≤ j ∧ j < b + i
    · rw [if_pos h2, if_pos (by omega)]
    · rw [if_neg h2, if_neg (by omega)]
def mnam (ms : zMS) (q : (Nat → Int32) × (Nat → Int32)) : zMS := (ms.1, va_up (va_up ms.2 20 q.1) 21 q.2)
def mnq (ms : zMS) : (Nat → Int32) × (Nat → Int32) := (ms.2 20, ms.2 21)
theorem mnam_self (ms : zMS) : mnam ms (mnq ms) = ms := by
  unfold mnam mnq
  rw [up_self (f := ms.2) (i := 20), up_self (f := ms.2) (i := 21)]
theorem mnam_nam (ms : zMS) (q q' : (Nat → Int32) × (Nat → Int32)) : mnam (mnam ms q) q' = mnam ms q' := by
  unfold mnam
  dsimp only
  rw [up_comm (i := 21) (j := 20) (by decide), up_same, up_same]
theorem mnam_21 (ms : zMS) (q : (Nat → Int32) × (Nat → Int32)) (b : Nat → Int32) : ((mnam ms q).1, va_up (mnam ms q).2 21 b) = mnam ms (q.1, b) := by
  unfold mnam
  dsimp only
  rw [up_same]
theorem mnam_20 (ms : zMS) (a : Nat → Int32) : (ms.1, va_up ms.2 20 a) = mnam ms (a, ms.2 21) := by
  unfold mnam
  dsimp only
  rw [up_comm (i := 20) (j := 21) (by decide), up_self (f := ms.2) (i := 21)]
def nameN (t : zT) : Nat := if tl t < 12 then tl t else 12
/-- a name taken out of a text -/
def takeQ (q : (Nat → Int32) × (Nat → Int32)) (t : zT) (p part : Nat) : (Nat → Int32) × (Nat → Int32) := if tl t = 0 then q else (upd q.1 (2 * p + part) (if vnull t = true then 0 else nI (nameN t)), zpas q.2 (24 * p + 12 * part) (fun i => vp_nar .char (tc t i)) (nameN t))
theorem i_Mod_takeName_0 : zins 136 0 = some (.aload_n 0) := by decide +kernel
theorem i_Mod_takeName_1 : zins 136 1 = some (.iconst 0) := by decide +kernel
theorem i_Mod_takeName_2 : zins 136 2 = some (.iload_n 3) := by decide +kernel
theorem i_Mod_takeName_3 : zins 136 3 = some (.iconst 2) := by decide +kernel
theorem i_Mod_takeName_4 : zins 136 4 = some (.iconst 1) := by decide +kernel
theorem i_Mod_takeName_5 : zins 136 5 = some (.iload_n 2) := by decide +kernel
theorem i_Mod_takeName_6 : zins 136 6 = some (.iconst 1) := by decide +kernel
theorem i_Mod_takeName_7 : zins 136 7 = some (.iadd) := by decide +kernel
theorem i_Mod_takeName_8 : zins 136 8 = some (.invokevirtual 153) := by decide +kernel
theorem i_Mod_takeName_11 : zins 136 11 = some (.istore 4) := by decide +kernel
theorem i_Mod_takeName_13 : zins 136 13 = some (.aload_n 0) := by decide +kernel
theorem i_Mod_takeName_14 : zins 136 14 = some (.iload 4) := by decide +kernel
theorem i_Mod_takeName_16 : zins 136 16 = some (.invokevirtual 145) := by decide +kernel
theorem i_Mod_takeName_19 : zins 136 19 = some (.bipush 12) := by decide +kernel
theorem i_Mod_takeName_21 : zins 136 21 = some (.if_icmp .ge 12) := by decide +kernel
theorem i_Mod_takeName_24 : zins 136 24 = some (.aload_n 0) := by decide +kernel
theorem i_Mod_takeName_25 : zins 136 25 = some (.iload 4) := by decide +kernel
theorem i_Mod_takeName_27 : zins 136 27 = some (.invokevirtual 145) := by decide +kernel
theorem i_Mod_takeName_30 : zins 136 30 = some (.goto 5) := by decide +kernel
theorem i_Mod_takeName_33 : zins 136 33 = some (.bipush 12) := by decide +kernel
theorem i_Mod_takeName_35 : zins 136 35 = some (.istore 5) := by decide +kernel
theorem i_Mod_takeName_37 : zins 136 37 = some (.iload 5) := by decide +kernel
theorem i_Mod_takeName_39 : zins 136 39 = some (.ifCond .ne 4) := by decide +kernel
theorem i_Mod_takeName_42 : zins 136 42 = some (.return_) := by decide +kernel
theorem i_Mod_takeName_43 : zins 136 43 = some (.aload_n 0) := by decide +kernel
theorem i_Mod_takeName_44 : zins 136 44 = some (.getfield 69) := by decide +kernel
theorem i_Mod_takeName_47 : zins 136 47 = some (.iconst 2) := by decide +kernel
theorem i_Mod_takeName_48 : zins 136 48 = some (.iload_n 1) := by decide +kernel
theorem i_Mod_takeName_49 : zins 136 49 = some (.imul) := by decide +kernel
theorem i_Mod_takeName_50 : zins 136 50 = some (.iload_n 2) := by decide +kernel
theorem i_Mod_takeName_51 : zins 136 51 = some (.iadd) := by decide +kernel
theorem i_Mod_takeName_52 : zins 136 52 = some (.aload_n 0) := by decide +kernel
theorem i_Mod_takeName_53 : zins 136 53 = some (.iload 4) := by decide +kernel
theorem i_Mod_takeName_55 : zins 136 55 = some (.invokevirtual 175) := by decide +kernel
theorem i_Mod_takeName_58 : zins 136 58 = some (.ifCond .eq 7) := by decide +kernel
theorem i_Mod_takeName_61 : zins 136 61 = some (.iconst 0) := by decide +kernel
theorem i_Mod_takeName_62 : zins 136 62 = some (.goto 5) := by decide +kernel
theorem i_Mod_takeName_65 : zins 136 65 = some (.iload 5) := by decide +kernel
theorem i_Mod_takeName_67 : zins 136 67 = some (.iastore) := by decide +kernel
theorem i_Mod_takeName_68 : zins 136 68 = some (.iconst 0) := by decide +kernel
theorem i_Mod_takeName_69 : zins 136 69 = some (.istore 6) := by decide +kernel
theorem i_Mod_takeName_71 : zins 136 71 = some (.iload 6) := by decide +kernel
theorem i_Mod_takeName_73 : zins 136 73 = some (.iload 5) := by decide +kernel
theorem i_Mod_takeName_75 : zins 136 75 = some (.if_icmp .ge 34) := by decide +kernel
theorem i_Mod_takeName_78 : zins 136 78 = some (.aload_n 0) := by decide +kernel
theorem i_Mod_takeName_79 : zins 136 79 = some (.getfield 72) := by decide +kernel
theorem i_Mod_takeName_82 : zins 136 82 = some (.bipush 24) := by decide +kernel
theorem i_Mod_takeName_84 : zins 136 84 = some (.iload_n 1) := by decide +kernel
theorem i_Mod_takeName_85 : zins 136 85 = some (.imul) := by decide +kernel
theorem i_Mod_takeName_86 : zins 136 86 = some (.bipush 12) := by decide +kernel
theorem i_Mod_takeName_88 : zins 136 88 = some (.iload_n 2) := by decide +kernel
theorem i_Mod_takeName_89 : zins 136 89 = some (.imul) := by decide +kernel
theorem i_Mod_takeName_90 : zins 136 90 = some (.iadd) := by decide +kernel
theorem i_Mod_takeName_91 : zins 136 91 = some (.iload 6) := by decide +kernel
theorem i_Mod_takeName_93 : zins 136 93 = some (.iadd) := by decide +kernel
theorem i_Mod_takeName_94 : zins 136 94 = some (.aload_n 0) := by decide +kernel
theorem i_Mod_takeName_95 : zins 136 95 = some (.iload 4) := by decide +kernel
theorem i_Mod_takeName_97 : zins 136 97 = some (.iload 6) := by decide +kernel
theorem i_Mod_takeName_99 : zins 136 99 = some (.invokevirtual 149) := by decide +kernel
theorem i_Mod_takeName_102 : zins 136 102 = some (.castore) := by decide +kernel
theorem i_Mod_takeName_103 : zins 136 103 = some (.iinc 6 1) := by decide +kernel
theorem i_Mod_takeName_106 : zins 136 106 = some (.goto (-35)) := by decide +kernel
theorem i_Mod_takeName_109 : zins 136 109 = some (.return_) := by decide +kernel
theorem l_Mod_takeName (X : zX) (d : Nat) (g : zH) (ms : zMS) (cnt : Nat) (hT : mTV ms 0 cnt) (p part pid : Nat) (hp : p ≤ 99) (hpa : part ≤ 1) (hpi : pid < 2 ^ 30) (a : Nat → Int32) (m : Nat) (hm : m ≤ 12) : ∀ (k i : Nat), i + k = m → zR X (d + 2) 136 71 [some (.ref 129), some (.int (nI p)), some (.int (nI part)), some (.int (nI pid)), some (.int (tI (mfind ms 0 (nI pid) 2 1 (nI (part + 1))))), some (.int (nI m)), some (.int (nI i))] [] (mset g (mnam ms (a, zpas (ms.2 21) (24 * p + 12 * part) (fun i => vp_nar .char (tc (mV ms (nI pid) 2 1 (nI (part + 1))) i)) i))) (none, mset g (mnam ms (a, zpas (ms.2 21) (24 * p + 12 * part) (fun i => vp_nar .char (tc (mV ms (nI pid) 2 1 (nI (part + 1))) i)) m))) := by
  intro k
  induction k with
  | zero =>
    intro i hik
    refine zr_iload i_Mod_takeName_71 rfl ?_
    refine zr_iload i_Mod_takeName_73 rfl ?_
    refine zn_icmp_ge 109 i_Mod_takeName_75 (by decide) (by omega) (by omega) (fun c_75 => ?_) (fun q => absurd q (by first | assumption | omega | simp_all))
    exact zR.retE i_Mod_takeName_109 rfl (by rw [show i = m by omega])
  | succ k ih =>
    intro i hik
    refine zr_iload i_Mod_takeName_71 rfl ?_
    refine zr_iload i_Mod_takeName_73 rfl ?_
    refine zn_icmp_ge 109 i_Mod_takeName_75 (by decide) (by omega) (by omega) (fun q => absurd q (by first | assumption | omega | simp_all)) (fun c_75 => ?_)
    refine zr_aload_n i_Mod_takeName_78 rfl ?_
    refine zr_getf i_Mod_takeName_79 rfl rfl rfl ?_
    refine zn_bipush 24 i_Mod_takeName_82 (by decide) ?_
    refine zr_iload_n i_Mod_takeName_84 rfl ?_
    refine zn_imul i_Mod_takeName_85 ?_
    refine zn_bipush 12 i_Mod_takeName_86 (by decide) ?_
    refine zr_iload_n i_Mod_takeName_88 rfl ?_
    refine zn_imul i_Mod_takeName_89 ?_
    refine zn_iadd i_Mod_takeName_90 ?_
    refine zr_iload i_Mod_takeName_91 rfl ?_
    refine zn_iadd i_Mod_takeName_93 ?_
    refine zr_aload_n i_Mod_takeName_94 rfl ?_
    refine zr_iload i_Mod_takeName_95 rfl ?_
    refine zr_iload i_Mod_takeName_97 rfl ?_
    refine zr_cv2 i_Mod_takeName_99 rfl (by decide) rfl (Nat.le_of_ble_eq_true rfl) (Nat.le_of_ble_eq_true rfl) (v_charOf X _ g (mnam ms (a, zpas (ms.2 21) (24 * p + 12 * part) (fun i => vp_nar .char (tc (mV ms (nI pid) 2 1 (nI (part + 1))) i)) i)) (mfind ms 0 (nI pid) 2 1 (nI (part + 1))) (mto_find hT _ _ _ _ : mto ms _) i (by omega)) ?_
    refine mn_castore 21 2400 i_Mod_takeName_102 (fun _ => rfl) (by decide) (by omega) (by decide) ?_
    refine zn_iinc i_Mod_takeName_103 rfl rfl ?_
    refine zr_goto 71 i_Mod_takeName_106 (by decide) ?_
    (have e := ih (i + 1) (by omega)
     rw [← zpas_s, ← mnam_21 ms (a, zpas (ms.2 21) (24 * p + 12 * part) (fun i => vp_nar .char (tc (mV ms (nI pid) 2 1 (nI (part + 1))) i)) i)] at e
     exact e)
theorem e_Mod_takeName (X : zX) (d : Nat) (g : zH) (ms : zMS) (cnt : Nat) (hT : mTV ms 0 cnt) (p part pid : Nat) (hp : p ≤ 99) (hpa : part ≤ 1) (hpi : pid < 2 ^ 30) : zR X (d + 3) 136 0 (zent 7 [.ref 129, .int (nI p), .int (nI part), .int (nI pid)]) [] (mset g ms) (none, mset g (mnam ms (takeQ (mnq ms) (mV ms (nI pid) 2 1 (nI (part + 1))) p part))) := by
  have hz : tl (mtx ms (mfind ms 0 (nI pid) 2 1 (nI (part + 1)))) ≤ 400 := v_tl ms _ (mto_find hT _ _ _ _)
  have hnm : nameN (mV ms (nI pid) 2 1 (nI (part + 1))) ≤ 12 := by unfold nameN; split <;> omega
  have hze : nameN (mV ms (nI pid) 2 1 (nI (part + 1))) = 0 → tl (mV ms (nI pid) 2 1 (nI (part + 1))) = 0 := by unfold nameN; split <;> omega
  have hne : nameN (mV ms (nI pid) 2 1 (nI (part + 1))) ≠ 0 → tl (mV ms (nI pid) 2 1 (nI (part + 1))) ≠ 0 := by unfold nameN; split <;> omega
  have key : zR X (d + 3) 136 37 [some (.ref 129), some (.int (nI p)), some (.int (nI part)), some (.int (nI pid)), some (.int (tI (mfind ms 0 (nI pid) 2 1 (nI (part + 1))))), some (.int (nI (nameN (mV ms (nI pid) 2 1 (nI (part + 1)))))), none] [] (mset g ms) (none, mset g (mnam ms (takeQ (mnq ms) (mV ms (nI pid) 2 1 (nI (part + 1))) p part))) := by
    refine zr_iload i_Mod_takeName_37 rfl ?_
    refine zN_if_ne 43 i_Mod_takeName_39 (by decide) (by omega) (fun c_39 => ?_) (fun c_39 => ?_)
    · skip
      refine zr_aload_n i_Mod_takeName_43 rfl ?_
      refine zr_getf i_Mod_takeName_44 rfl rfl rfl ?_
      refine zn_iconst 2 i_Mod_takeName_47 (by decide) ?_
      refine zr_iload_n i_Mod_takeName_48 rfl ?_
      refine zn_imul i_Mod_takeName_49 ?_
      refine zr_iload_n i_Mod_takeName_50 rfl ?_
      refine zn_iadd i_Mod_takeName_51 ?_
      refine zr_aload_n i_Mod_takeName_52 rfl ?_
      refine zr_iload i_Mod_takeName_53 rfl ?_
      refine zr_cv1 i_Mod_takeName_55 rfl (by decide) rfl (Nat.le_of_ble_eq_true rfl) (Nat.le_of_ble_eq_true rfl) (v_isNull X _ g ms _ (mto_find hT _ _ _ _)) ?_
      refine zB_if_eq 65 i_Mod_takeName_58 (by decide) (fun c_58 => ?_) (fun c_58 => ?_)
      · skip
        refine zr_iload i_Mod_takeName_65 rfl ?_
        refine mn_iastore 20 200 i_Mod_takeName_67 (fun _ => rfl) (by decide) (by omega) (by decide) ?_
        refine zn_iconst 0 i_Mod_takeName_68 (by decide) ?_
        refine zr_istore i_Mod_takeName_69 rfl ?_
        (have e := l_Mod_takeName X (d + 1) g ms cnt hT p part pid hp hpa hpi (upd (ms.2 20) (2 * p + part) (nI (nameN (mV ms (nI pid) 2 1 (nI (part + 1)))))) (nameN (mV ms (nI pid) 2 1 (nI (part + 1)))) hnm (nameN (mV ms (nI pid) 2 1 (nI (part + 1)))) 0 (by omega)
         rw [zpas_0, ← mnam_20] at e
         rw [show takeQ (mnq ms) (mV ms (nI pid) 2 1 (nI (part + 1))) p part = (upd (ms.2 20) (2 * p + part) (nI (nameN (mV ms (nI pid) 2 1 (nI (part + 1))))), zpas (ms.2 21) (24 * p + 12 * part) (fun i => vp_nar .char (tc (mV ms (nI pid) 2 1 (nI (part + 1))) i)) (nameN (mV ms (nI pid) 2 1 (nI (part + 1))))) by
           unfold takeQ
           rw [if_neg (show ¬ tl (mV ms (nI pid) 2 1 (nI (part + 1))) = 0 from hne (by omega))]
           simp [mnq, mV, *]]
         exact e)
      · skip
        refine zr_iconst i_Mod_takeName_61 (v := 0) (by decide) ?_
        refine zr_goto 67 i_Mod_takeName_62 (by decide) ?_
        refine mn_iastore 20 200 i_Mod_takeName_67 (fun _ => rfl) (by decide) (by omega) (by decide) ?_
        refine zn_iconst 0 i_Mod_takeName_68 (by decide) ?_
        refine zr_istore i_Mod_takeName_69 rfl ?_
        (have e := l_Mod_takeName X (d + 1) g ms cnt hT p part pid hp hpa hpi (upd (ms.2 20) (2 * p + part) 0) (nameN (mV ms (nI pid) 2 1 (nI (part + 1)))) hnm (nameN (mV ms (nI pid) 2 1 (nI (part + 1)))) 0 (by omega)
         rw [zpas_0, ← mnam_20] at e
         rw [show takeQ (mnq ms) (mV ms (nI pid) 2 1 (nI (part + 1))) p part = (upd (ms.2 20) (2 * p + part) 0, zpas (ms.2 21) (24 * p + 12 * part) (fun i => vp_nar .char (tc (mV ms (nI pid) 2 1 (nI (part + 1))) i)) (nameN (mV ms (nI pid) 2 1 (nI (part + 1))))) by
           unfold takeQ
           rw [if_neg (show ¬ tl (mV ms (nI pid) 2 1 (nI (part + 1))) = 0 from hne (by omega))]
           simp [mnq, mV, *]]
         exact e)
    · skip
      exact zR.retE i_Mod_takeName_42 rfl (by rw [takeQ, if_pos (hze (by omega)), mnam_self])
  refine zr_aload_n i_Mod_takeName_0 rfl ?_
  refine zn_iconst 0 i_Mod_takeName_1 (by decide) ?_
  refine zr_iload_n i_Mod_takeName_2 rfl ?_
  refine zr_iconst i_Mod_takeName_3 (v := 2) (by decide) ?_
  refine zr_iconst i_Mod_takeName_4 (v := 1) (by decide) ?_
  refine zr_iload_n i_Mod_takeName_5 rfl ?_
  refine zn_iconst 1 i_Mod_takeName_6 (by decide) ?_
  refine zn_iadd i_Mod_takeName_7 ?_
  refine zr_cv5 i_Mod_takeName_8 rfl (by decide) rfl (Nat.le_of_ble_eq_true rfl) (Nat.le_of_ble_eq_true rfl) (e_Mod_find X _ g ms 0 cnt _ _ _ _ (by decide) hT.1 hT.2.1) ?_
  refine zr_istore i_Mod_takeName_11 rfl ?_
  refine zr_aload_n i_Mod_takeName_13 rfl ?_
  refine zr_iload i_Mod_takeName_14 rfl ?_
  refine zr_cv1 i_Mod_takeName_16 rfl (by decide) rfl (Nat.le_of_ble_eq_true rfl) (Nat.le_of_ble_eq_true rfl) (v_sizeOf X _ g ms _ (mto_find hT _ _ _ _)) ?_
  refine zn_bipush 12 i_Mod_takeName_19 (by decide) ?_
  refine zn_icmp_ge 33 i_Mod_takeName_21 (by decide) (by omega) (by omega) (fun c_21 => ?_) (fun c_21 => ?_)
  · skip
    refine zn_bipush 12 i_Mod_takeName_33 (by decide) ?_
    refine zr_istore i_Mod_takeName_35 rfl ?_
    first
    | (rw [show nameN (mV ms (nI pid) 2 1 (nI (part + 1))) = tl (mtx ms (mfind ms 0 (nI pid) 2 1 (nI (part + 1)))) from if_pos (by assumption)] at key; exact key)
    | (rw [show nameN (mV ms (nI pid) 2 1 (nI (part + 1))) = 12 from if_neg (show ¬ tl (mtx ms (mfind ms 0 (nI pid) 2 1 (nI (part + 1)))) < 12 by omega)] at key; exact key)
  · skip
    refine zr_aload_n i_Mod_takeName_24 rfl ?_
    refine zr_iload i_Mod_takeName_25 rfl ?_
    refine zr_cv1 i_Mod_takeName_27 rfl (by decide) rfl (Nat.le_of_ble_eq_true rfl) (Nat.le_of_ble_eq_true rfl) (v_sizeOf X _ g ms _ (mto_find hT _ _ _ _)) ?_
    refine zr_goto 35 i_Mod_takeName_30 (by decide) ?_
    refine zr_istore i_Mod_takeName_35 rfl ?_
    first
    | (rw [show nameN (mV ms (nI pid) 2 1 (nI (part + 1))) = tl (mtx ms (mfind ms 0 (nI pid) 2 1 (nI (part + 1)))) from if_pos (by assumption)] at key; exact key)
    | (rw [show nameN (mV ms (nI pid) 2 1 (nI (part + 1))) = 12 from if_neg (show ¬ tl (mtx ms (mfind ms 0 (nI pid) 2 1 (nI (part + 1)))) < 12 by omega)] at key; exact key)
theorem i32_rng {c a b : Int32} {m n : Nat} (ha : a = nI m) (hb : b = nI n) (hm : m < 2 ^ 31) (hn : n < 2 ^ 31) (h1 : ¬ c < a) (h2 : ¬ b < c) : ∃ x, m ≤ x ∧ x ≤ n ∧ c = nI x := by
  rw [Int32.lt_iff_toInt_lt, ha, nI_toInt hm] at h1
  rw [Int32.lt_iff_toInt_lt, hb, nI_toInt hn] at h2
  obtain ⟨j, hj, e⟩ := nI_of (x := c) (by rw [Int32.lt_iff_toInt_lt, show (0 : Int32).toInt = 0 from rfl]; omega)
  rw [e, nI_toInt hj] at h1 h2
  exact ⟨j, by omega, by omega, e⟩
theorem zdig_nI {c : Int32} (h : zdig c = true) : ∃ x, 48 ≤ x ∧ x ≤ 57 ∧ c = nI x := by
  unfold zdig at h
  simp only [Bool.and_eq_true, Bool.not_eq_true', decide_eq_false_iff_not] at h
  exact i32_rng (a := 48) (b := 57) rfl rfl (by decide) (by decide) h.1 h.2
theorem vnumL_b (t : zT) : ∀ (k i a : Nat), vnumL t i k (nI a) = -1 ∨ ∃ b, b < (a + 1) * 10 ^ k ∧ vnumL t i k (nI a) = nI b := by
  intro k
  induction k with
  | zero => intro i a; exact Or.inr ⟨a, by omega, rfl⟩
  | succ k ih =>
    intro i a
    rw [vnumL]
    split
    · rename_i hd
      obtain ⟨x, h1, h2, e⟩ := zdig_nI hd
      rw [e, show (10 : Int32) * nI a + nI x - 48 = nI (10 * a + (x - 48)) by
        rw [show (10 : Int32) = nI 10 from rfl, pk_mul, nI_add, show (48 : Int32) = nI 48 from rfl, pk_sub (by omega)]
        congr 1; omega]
      rcases ih (i + 1) (10 * a + (x - 48)) with h | ⟨b, hb, h⟩
      · exact Or.inl h
      · refine Or.inr ⟨b, Nat.lt_of_lt_of_le hb ?_, h⟩
        rw [Nat.pow_succ, Nat.mul_comm (10 ^ k) 10, ← Nat.mul_assoc]
        exact Nat.mul_le_mul_right _ (by omega)
    · exact Or.inl rfl
theorem vnum_b (t : zT) (most : Nat) : vnum t most = -1 ∨ ∃ b, b < 10 ^ most ∧ vnum t most = nI b := by
  unfold vnum
  split
  · rename_i h
    rcases vnumL_b t (tl t) 0 0 with e | ⟨b, hb, e⟩
    · exact Or.inl e
    · refine Or.inr ⟨b, Nat.lt_of_lt_of_le hb ?_, e⟩
      rw [Nat.zero_add, Nat.one_mul]
      exact Nat.pow_le_pow_right (by decide) h.2
  · exact Or.inl rfl
theorem patF_b (V : zV) (pid : Nat) : patF V pid = -1 ∨ ∃ p, p ≤ 99 ∧ patF V pid = nI p := by
  unfold patF
  split
  · exact Or.inl rfl
  · split
    · exact Or.inl rfl
    · rcases vnum_b (V (nI pid) 1 1 1) 2 with e | ⟨b, hb, e⟩
      · exact Or.inl e
      · exact Or.inr ⟨b, by omega, e⟩
/-- why a message of a kind is in error, 0 where it isn't; the rows of results after the trial -/
def judgeF (V : zV) (S : zSg) (sg : Nat) (bed kn : Nat → Int32) (q : zQ) (kind : Nat) : Int32 × zQ :=
  if kind = 0 then (6, q)
  else if (patF V (S 80 73 68 1)).toNatClampNeg = 0 then (11, q)
  else if kind = 1 then (if ¬ 0 ≤ bedF V (S 80 86 49 1) then 12 else if ¬ bed (patF V (S 80 73 68 1)).toNatClampNeg < 0 then 14 else if ¬ whoF bed (bedF V (S 80 86 49 1)) = 0 then 15 else 0, q)
  else if kind = 2 then (if ¬ 0 ≤ bedF V (S 80 86 49 1) then 12 else if bed (patF V (S 80 73 68 1)).toNatClampNeg < 0 then 13 else if ¬ whoF bed (bedF V (S 80 86 49 1)) = 0 then 15 else 0, q)
  else if kind = 3 then (if bed (patF V (S 80 73 68 1)).toNatClampNeg < 0 then 13 else 0, q)
  else if kind = 8 then (if kn (patF V (S 80 73 68 1)).toNatClampNeg = 0 then 16 else 0, q)
  else if bed (patF V (S 80 73 68 1)).toNatClampNeg < 0 then (13, q)
  else if wrongF V S sg = true then (17, q)
  else (if (tryF V S sg (patF V (S 80 73 68 1)).toNatClampNeg q).2 = true then 0 else 18, (tryF V S sg (patF V (S 80 73 68 1)).toNatClampNeg q).1)
theorem whoL_b (b : Nat → Int32) (bed : Int32) : ∀ k i w, w ≤ i + k → whoL b bed i k w ≤ i + k := by
  intro k
  induction k with
  | zero => intro i w h; exact h
  | succ k ih =>
    intro i w h
    rw [whoL]
    have := ih (i + 1) (if b i = bed then i else w) (by split <;> omega)
    omega
theorem whoF_b (b : Nat → Int32) (bed : Int32) : whoF b bed ≤ 100 := whoL_b b bed 99 1 0 (by omega)
theorem i_Mod_judge_0 : zins 121 0 = some (.iload_n 1) := by decide +kernel
theorem i_Mod_judge_1 : zins 121 1 = some (.ifCond .ne 6) := by decide +kernel
theorem i_Mod_judge_4 : zins 121 4 = some (.bipush 6) := by decide +kernel
theorem i_Mod_judge_6 : zins 121 6 = some (.ireturn) := by decide +kernel
theorem i_Mod_judge_7 : zins 121 7 = some (.aload_n 0) := by decide +kernel
theorem i_Mod_judge_8 : zins 121 8 = some (.aload_n 0) := by decide +kernel
theorem i_Mod_judge_9 : zins 121 9 = some (.bipush 80) := by decide +kernel
theorem i_Mod_judge_11 : zins 121 11 = some (.bipush 73) := by decide +kernel
theorem i_Mod_judge_13 : zins 121 13 = some (.bipush 68) := by decide +kernel
theorem i_Mod_judge_15 : zins 121 15 = some (.iconst 1) := by decide +kernel
theorem i_Mod_judge_16 : zins 121 16 = some (.invokevirtual 165) := by decide +kernel
theorem i_Mod_judge_19 : zins 121 19 = some (.invokevirtual 202) := by decide +kernel
theorem i_Mod_judge_22 : zins 121 22 = some (.istore_n 2) := by decide +kernel
theorem i_Mod_judge_23 : zins 121 23 = some (.aload_n 0) := by decide +kernel
theorem i_Mod_judge_24 : zins 121 24 = some (.aload_n 0) := by decide +kernel
theorem i_Mod_judge_25 : zins 121 25 = some (.bipush 80) := by decide +kernel
theorem i_Mod_judge_27 : zins 121 27 = some (.bipush 86) := by decide +kernel
theorem i_Mod_judge_29 : zins 121 29 = some (.bipush 49) := by decide +kernel
theorem i_Mod_judge_31 : zins 121 31 = some (.iconst 1) := by decide +kernel
theorem i_Mod_judge_32 : zins 121 32 = some (.invokevirtual 165) := by decide +kernel
theorem i_Mod_judge_35 : zins 121 35 = some (.invokevirtual 205) := by decide +kernel
theorem i_Mod_judge_38 : zins 121 38 = some (.istore_n 3) := by decide +kernel
theorem i_Mod_judge_39 : zins 121 39 = some (.iload_n 2) := by decide +kernel
theorem i_Mod_judge_40 : zins 121 40 = some (.iconst 1) := by decide +kernel
theorem i_Mod_judge_41 : zins 121 41 = some (.if_icmp .ge 6) := by decide +kernel
theorem i_Mod_judge_44 : zins 121 44 = some (.bipush 11) := by decide +kernel
theorem i_Mod_judge_46 : zins 121 46 = some (.ireturn) := by decide +kernel
theorem i_Mod_judge_47 : zins 121 47 = some (.iload_n 1) := by decide +kernel
theorem i_Mod_judge_48 : zins 121 48 = some (.iconst 1) := by decide +kernel
theorem i_Mod_judge_49 : zins 121 49 = some (.if_icmp .eq 8) := by decide +kernel
theorem i_Mod_judge_52 : zins 121 52 = some (.iload_n 1) := by decide +kernel
theorem i_Mod_judge_53 : zins 121 53 = some (.iconst 2) := by decide +kernel
theorem i_Mod_judge_54 : zins 121 54 = some (.if_icmp .ne 7) := by decide +kernel
theorem i_Mod_judge_57 : zins 121 57 = some (.iconst 1) := by decide +kernel
theorem i_Mod_judge_58 : zins 121 58 = some (.goto 4) := by decide +kernel
theorem i_Mod_judge_61 : zins 121 61 = some (.iconst 0) := by decide +kernel
theorem i_Mod_judge_62 : zins 121 62 = some (.istore 4) := by decide +kernel
theorem i_Mod_judge_64 : zins 121 64 = some (.iload 4) := by decide +kernel
theorem i_Mod_judge_66 : zins 121 66 = some (.ifCond .eq 10) := by decide +kernel
theorem i_Mod_judge_69 : zins 121 69 = some (.iload_n 3) := by decide +kernel
theorem i_Mod_judge_70 : zins 121 70 = some (.ifCond .ge 6) := by decide +kernel
theorem i_Mod_judge_73 : zins 121 73 = some (.bipush 12) := by decide +kernel
theorem i_Mod_judge_75 : zins 121 75 = some (.ireturn) := by decide +kernel
theorem i_Mod_judge_76 : zins 121 76 = some (.aload_n 0) := by decide +kernel
theorem i_Mod_judge_77 : zins 121 77 = some (.getfield 66) := by decide +kernel
theorem i_Mod_judge_80 : zins 121 80 = some (.iload_n 2) := by decide +kernel
theorem i_Mod_judge_81 : zins 121 81 = some (.iaload) := by decide +kernel
theorem i_Mod_judge_82 : zins 121 82 = some (.ifCond .lt 7) := by decide +kernel
theorem i_Mod_judge_85 : zins 121 85 = some (.iconst 1) := by decide +kernel
theorem i_Mod_judge_86 : zins 121 86 = some (.goto 4) := by decide +kernel
theorem i_Mod_judge_89 : zins 121 89 = some (.iconst 0) := by decide +kernel
theorem i_Mod_judge_90 : zins 121 90 = some (.istore 5) := by decide +kernel
theorem i_Mod_judge_92 : zins 121 92 = some (.iload 5) := by decide +kernel
theorem i_Mod_judge_94 : zins 121 94 = some (.ifCond .ne 22) := by decide +kernel
theorem i_Mod_judge_97 : zins 121 97 = some (.iload_n 1) := by decide +kernel
theorem i_Mod_judge_98 : zins 121 98 = some (.iconst 2) := by decide +kernel
theorem i_Mod_judge_99 : zins 121 99 = some (.if_icmp .eq 14) := by decide +kernel
theorem i_Mod_judge_102 : zins 121 102 = some (.iload_n 1) := by decide +kernel
theorem i_Mod_judge_103 : zins 121 103 = some (.iconst 3) := by decide +kernel
theorem i_Mod_judge_104 : zins 121 104 = some (.if_icmp .eq 9) := by decide +kernel
theorem i_Mod_judge_107 : zins 121 107 = some (.iload_n 1) := by decide +kernel
theorem i_Mod_judge_108 : zins 121 108 = some (.bipush 9) := by decide +kernel
theorem i_Mod_judge_110 : zins 121 110 = some (.if_icmp .ne 6) := by decide +kernel
theorem i_Mod_judge_113 : zins 121 113 = some (.bipush 13) := by decide +kernel
theorem i_Mod_judge_115 : zins 121 115 = some (.ireturn) := by decide +kernel
theorem i_Mod_judge_116 : zins 121 116 = some (.iload 5) := by decide +kernel
theorem i_Mod_judge_118 : zins 121 118 = some (.ifCond .eq 11) := by decide +kernel
theorem i_Mod_judge_121 : zins 121 121 = some (.iload_n 1) := by decide +kernel
theorem i_Mod_judge_122 : zins 121 122 = some (.iconst 1) := by decide +kernel
theorem i_Mod_judge_123 : zins 121 123 = some (.if_icmp .ne 6) := by decide +kernel
theorem i_Mod_judge_126 : zins 121 126 = some (.bipush 14) := by decide +kernel
theorem i_Mod_judge_128 : zins 121 128 = some (.ireturn) := by decide +kernel
theorem i_Mod_judge_129 : zins 121 129 = some (.iload 4) := by decide +kernel
theorem i_Mod_judge_131 : zins 121 131 = some (.ifCond .eq 14) := by decide +kernel
theorem i_Mod_judge_134 : zins 121 134 = some (.aload_n 0) := by decide +kernel
theorem i_Mod_judge_135 : zins 121 135 = some (.iload_n 3) := by decide +kernel
theorem i_Mod_judge_136 : zins 121 136 = some (.invokevirtual 208) := by decide +kernel
theorem i_Mod_judge_139 : zins 121 139 = some (.ifCond .eq 6) := by decide +kernel
theorem i_Mod_judge_142 : zins 121 142 = some (.bipush 15) := by decide +kernel
theorem i_Mod_judge_144 : zins 121 144 = some (.ireturn) := by decide +kernel
theorem i_Mod_judge_145 : zins 121 145 = some (.iload_n 1) := by decide +kernel
theorem i_Mod_judge_146 : zins 121 146 = some (.bipush 8) := by decide +kernel
theorem i_Mod_judge_148 : zins 121 148 = some (.if_icmp .ne 15) := by decide +kernel
theorem i_Mod_judge_151 : zins 121 151 = some (.aload_n 0) := by decide +kernel
theorem i_Mod_judge_152 : zins 121 152 = some (.getfield 62) := by decide +kernel
theorem i_Mod_judge_155 : zins 121 155 = some (.iload_n 2) := by decide +kernel
theorem i_Mod_judge_156 : zins 121 156 = some (.baload) := by decide +kernel
theorem i_Mod_judge_157 : zins 121 157 = some (.ifCond .ne 6) := by decide +kernel
theorem i_Mod_judge_160 : zins 121 160 = some (.bipush 16) := by decide +kernel
theorem i_Mod_judge_162 : zins 121 162 = some (.ireturn) := by decide +kernel
theorem i_Mod_judge_163 : zins 121 163 = some (.iload_n 1) := by decide +kernel
theorem i_Mod_judge_164 : zins 121 164 = some (.bipush 9) := by decide +kernel
theorem i_Mod_judge_166 : zins 121 166 = some (.if_icmp .eq 7) := by decide +kernel
theorem i_Mod_judge_169 : zins 121 169 = some (.iconst 0) := by decide +kernel
theorem i_Mod_judge_170 : zins 121 170 = some (.goto 29) := by decide +kernel
theorem i_Mod_judge_173 : zins 121 173 = some (.aload_n 0) := by decide +kernel
theorem i_Mod_judge_174 : zins 121 174 = some (.invokevirtual 211) := by decide +kernel
theorem i_Mod_judge_177 : zins 121 177 = some (.ifCond .eq 8) := by decide +kernel
theorem i_Mod_judge_180 : zins 121 180 = some (.bipush 17) := by decide +kernel
theorem i_Mod_judge_182 : zins 121 182 = some (.goto 17) := by decide +kernel
theorem i_Mod_judge_185 : zins 121 185 = some (.aload_n 0) := by decide +kernel
theorem i_Mod_judge_186 : zins 121 186 = some (.iload_n 2) := by decide +kernel
theorem i_Mod_judge_187 : zins 121 187 = some (.invokevirtual 214) := by decide +kernel
theorem i_Mod_judge_190 : zins 121 190 = some (.ifCond .eq 7) := by decide +kernel
theorem i_Mod_judge_193 : zins 121 193 = some (.iconst 0) := by decide +kernel
theorem i_Mod_judge_194 : zins 121 194 = some (.goto 5) := by decide +kernel
theorem i_Mod_judge_197 : zins 121 197 = some (.bipush 18) := by decide +kernel
theorem i_Mod_judge_199 : zins 121 199 = some (.ireturn) := by decide +kernel
theorem e0_Mod_judge (X : zX) (d : Nat) (g : zH) (ms : zMS) (cnt : Nat) (hT : mTV ms 0 cnt) (hR : ∀ s : Nat, mfind ms 0 (nI s) 2 (nI 222) 1 = none) (sg : Nat) (hs : ms.2 2 0 = nI sg) (hsl : sg ≤ 200) (nr : Nat → Nat) (hN : ∀ p, p ≤ 99 → ms.2 22 p = nI (nr p) ∧ nr p ≤ 12) : zR X (d + 4) 121 0 (zent 6 [.ref 129, .int 0]) [] (mset g ms) (some (.int (judgeF (mV ms) (mseg ms) sg (ms.2 19) (ms.2 18) (mq ms) 0).1), mset g (mres ms (judgeF (mV ms) (mseg ms) sg (ms.2 19) (ms.2 18) (mq ms) 0).2)) := by
  have hb1 := mseg_b hs hsl 80 73 68 1 (by omega)
  have hb2 := mseg_b hs hsl 80 86 49 1 (by omega)
  refine zr_iload_n i_Mod_judge_0 rfl ?_
  refine zr_if_ne 7 i_Mod_judge_1 (by decide) (fun q => absurd q (by decide)) (fun _ => ?_)
  refine zr_bipush i_Mod_judge_4 (v := 6) (by decide) ?_
  exact zR.retE i_Mod_judge_6 rfl (by simp [judgeF, mres_self, show (-1 : Int32).toNatClampNeg = 0 from rfl, *])
theorem e1_Mod_judge (X : zX) (d : Nat) (g : zH) (ms : zMS) (cnt : Nat) (hT : mTV ms 0 cnt) (hR : ∀ s : Nat, mfind ms 0 (nI s) 2 (nI 222) 1 = none) (sg : Nat) (hs : ms.2 2 0 = nI sg) (hsl : sg ≤ 200) (nr : Nat → Nat) (hN : ∀ p, p ≤ 99 → ms.2 22 p = nI (nr p) ∧ nr p ≤ 12) : zR X (d + 4) 121 0 (zent 6 [.ref 129, .int 1]) [] (mset g ms) (some (.int (judgeF (mV ms) (mseg ms) sg (ms.2 19) (ms.2 18) (mq ms) 1).1), mset g (mres ms (judgeF (mV ms) (mseg ms) sg (ms.2 19) (ms.2 18) (mq ms) 1).2)) := by
  have hb1 := mseg_b hs hsl 80 73 68 1 (by omega)
  have hb2 := mseg_b hs hsl 80 86 49 1 (by omega)
  refine zr_iload_n i_Mod_judge_0 rfl ?_
  refine zr_if_ne 7 i_Mod_judge_1 (by decide) (fun _ => ?_) (fun q => absurd q (by decide))
  refine zr_aload_n i_Mod_judge_7 rfl ?_
  refine zr_aload_n i_Mod_judge_8 rfl ?_
  refine zr_bipush i_Mod_judge_9 (v := 80) (by decide) ?_
  refine zr_bipush i_Mod_judge_11 (v := 73) (by decide) ?_
  refine zr_bipush i_Mod_judge_13 (v := 68) (by decide) ?_
  refine zn_iconst 1 i_Mod_judge_15 (by decide) ?_
  refine zr_cv4 i_Mod_judge_16 rfl (by decide) rfl (Nat.le_of_ble_eq_true rfl) (Nat.le_of_ble_eq_true rfl) (e_Mod_segment X _ g ms sg _ _ _ _ hs hsl (by omega) (by omega)) ?_
  refine zr_cv1 i_Mod_judge_19 rfl (by decide) rfl (Nat.le_of_ble_eq_true rfl) (Nat.le_of_ble_eq_true rfl) (e_Mod_patientIn X _ g ms cnt hT _ (by omega)) ?_
  refine zr_istore_n i_Mod_judge_22 rfl ?_
  refine zr_aload_n i_Mod_judge_23 rfl ?_
  refine zr_aload_n i_Mod_judge_24 rfl ?_
  refine zr_bipush i_Mod_judge_25 (v := 80) (by decide) ?_
  refine zr_bipush i_Mod_judge_27 (v := 86) (by decide) ?_
  refine zr_bipush i_Mod_judge_29 (v := 49) (by decide) ?_
  refine zn_iconst 1 i_Mod_judge_31 (by decide) ?_
  refine zr_cv4 i_Mod_judge_32 rfl (by decide) rfl (Nat.le_of_ble_eq_true rfl) (Nat.le_of_ble_eq_true rfl) (e_Mod_segment X _ g ms sg _ _ _ _ hs hsl (by omega) (by omega)) ?_
  refine zr_cv1 i_Mod_judge_35 rfl (by decide) rfl (Nat.le_of_ble_eq_true rfl) (Nat.le_of_ble_eq_true rfl) (e_Mod_bedIn X _ g ms cnt hT _ (by omega)) ?_
  refine zr_istore_n i_Mod_judge_38 rfl ?_
  rcases patF_b (mV ms) (mseg ms 80 73 68 1) with e | ⟨p, hp, e⟩
  · rw [e]
    refine zr_iload_n i_Mod_judge_39 rfl ?_
    refine zr_iconst i_Mod_judge_40 (v := 1) (by decide) ?_
    refine zr_icmp_ge 47 i_Mod_judge_41 (by decide) (fun q => absurd q (by decide)) (fun _ => ?_)
    refine zr_bipush i_Mod_judge_44 (v := 11) (by decide) ?_
    exact zR.retE i_Mod_judge_46 rfl (by simp [judgeF, mres_self, show (-1 : Int32).toNatClampNeg = 0 from rfl, *])
  · rw [e]
    refine zr_iload_n i_Mod_judge_39 rfl ?_
    refine zn_iconst 1 i_Mod_judge_40 (by decide) ?_
    refine zn_icmp_ge 47 i_Mod_judge_41 (by decide) (by omega) (by omega) (fun c_41 => ?_) (fun c_41 => ?_)
    · skip
      have hp0 : p ≠ 0 := by omega
      refine zr_iload_n i_Mod_judge_47 rfl ?_
      refine zr_iconst i_Mod_judge_48 (v := 1) (by decide) ?_
      refine zr_icmp_eq 57 i_Mod_judge_49 (by decide) (fun _ => ?_) (fun q => absurd q (by decide))
      refine zr_iconst i_Mod_judge_57 (v := 1) (by decide) ?_
      refine zr_goto 62 i_Mod_judge_58 (by decide) ?_
      refine zr_istore i_Mod_judge_62 rfl ?_
      refine zr_iload i_Mod_judge_64 rfl ?_
      refine zr_if_eq 76 i_Mod_judge_66 (by decide) (fun q => absurd q (by decide)) (fun _ => ?_)
      refine zr_iload_n i_Mod_judge_69 rfl ?_
      refine zr_if_ge 76 i_Mod_judge_70 (by decide) (fun c_70 => ?_) (fun c_70 => ?_)
      · skip
        refine zr_aload_n i_Mod_judge_76 rfl ?_
        refine zr_getf i_Mod_judge_77 rfl rfl rfl ?_
        refine zr_iload_n i_Mod_judge_80 rfl ?_
        refine zn_iaload i_Mod_judge_81 rfl (by omega) (by decide) ?_
        refine zr_if_lt 89 i_Mod_judge_82 (by decide) (fun c_82 => ?_) (fun c_82 => ?_)
        · skip
          refine zr_iconst i_Mod_judge_89 (v := 0) (by decide) ?_
          refine zr_istore i_Mod_judge_90 rfl ?_
          refine zr_iload i_Mod_judge_92 rfl ?_
          refine zr_if_ne 116 i_Mod_judge_94 (by decide) (fun q => absurd q (by decide)) (fun _ => ?_)
          refine zr_iload_n i_Mod_judge_97 rfl ?_
          refine zr_iconst i_Mod_judge_98 (v := 2) (by decide) ?_
          refine zr_icmp_eq 113 i_Mod_judge_99 (by decide) (fun q => absurd q (by decide)) (fun _ => ?_)
          refine zr_iload_n i_Mod_judge_102 rfl ?_
          refine zr_iconst i_Mod_judge_103 (v := 3) (by decide) ?_
          refine zr_icmp_eq 113 i_Mod_judge_104 (by decide) (fun q => absurd q (by decide)) (fun _ => ?_)
          refine zr_iload_n i_Mod_judge_107 rfl ?_
          refine zr_bipush i_Mod_judge_108 (v := 9) (by decide) ?_
          refine zr_icmp_ne 116 i_Mod_judge_110 (by decide) (fun _ => ?_) (fun q => absurd q (by decide))
          refine zr_iload i_Mod_judge_116 rfl ?_
          refine zr_if_eq 129 i_Mod_judge_118 (by decide) (fun _ => ?_) (fun q => absurd q (by decide))
          refine zr_iload i_Mod_judge_129 rfl ?_
          refine zr_if_eq 145 i_Mod_judge_131 (by decide) (fun q => absurd q (by decide)) (fun _ => ?_)
          refine zr_aload_n i_Mod_judge_134 rfl ?_
          refine zr_iload_n i_Mod_judge_135 rfl ?_
          refine zr_cv1 i_Mod_judge_136 rfl (by decide) rfl (Nat.le_of_ble_eq_true rfl) (Nat.le_of_ble_eq_true rfl) (e_Mod_whoIsIn X _ g ms _) ?_
          refine zN_if_eq 145 i_Mod_judge_139 (by decide) (by have := whoF_b (ms.2 19) (bedF (mV ms) (mseg ms 80 86 49 1)); omega) (fun c_139 => ?_) (fun c_139 => ?_)
          · skip
            refine zr_iload_n i_Mod_judge_145 rfl ?_
            refine zr_bipush i_Mod_judge_146 (v := 8) (by decide) ?_
            refine zr_icmp_ne 163 i_Mod_judge_148 (by decide) (fun _ => ?_) (fun q => absurd q (by decide))
            refine zr_iload_n i_Mod_judge_163 rfl ?_
            refine zr_bipush i_Mod_judge_164 (v := 9) (by decide) ?_
            refine zr_icmp_eq 173 i_Mod_judge_166 (by decide) (fun q => absurd q (by decide)) (fun _ => ?_)
            refine zr_iconst i_Mod_judge_169 (v := 0) (by decide) ?_
            refine zr_goto 199 i_Mod_judge_170 (by decide) ?_
            exact zR.retE i_Mod_judge_199 rfl (by simp [judgeF, mres_self, nI_clamp (show p < 2 ^ 31 by omega), *])
          · skip
            refine zr_bipush i_Mod_judge_142 (v := 15) (by decide) ?_
            exact zR.retE i_Mod_judge_144 rfl (by simp [judgeF, mres_self, nI_clamp (show p < 2 ^ 31 by omega), *])
        · skip
          refine zr_iconst i_Mod_judge_85 (v := 1) (by decide) ?_
          refine zr_goto 90 i_Mod_judge_86 (by decide) ?_
          refine zr_istore i_Mod_judge_90 rfl ?_
          refine zr_iload i_Mod_judge_92 rfl ?_
          refine zr_if_ne 116 i_Mod_judge_94 (by decide) (fun _ => ?_) (fun q => absurd q (by decide))
          refine zr_iload i_Mod_judge_116 rfl ?_
          refine zr_if_eq 129 i_Mod_judge_118 (by decide) (fun q => absurd q (by decide)) (fun _ => ?_)
          refine zr_iload_n i_Mod_judge_121 rfl ?_
          refine zr_iconst i_Mod_judge_122 (v := 1) (by decide) ?_
          refine zr_icmp_ne 129 i_Mod_judge_123 (by decide) (fun q => absurd q (by decide)) (fun _ => ?_)
          refine zr_bipush i_Mod_judge_126 (v := 14) (by decide) ?_
          exact zR.retE i_Mod_judge_128 rfl (by simp [judgeF, mres_self, nI_clamp (show p < 2 ^ 31 by omega), *])
      · skip
        refine zr_bipush i_Mod_judge_73 (v := 12) (by decide) ?_
        exact zR.retE i_Mod_judge_75 rfl (by simp [judgeF, mres_self, nI_clamp (show p < 2 ^ 31 by omega), *])
    · skip
      have hp0 : p = 0 := by omega
      refine zr_bipush i_Mod_judge_44 (v := 11) (by decide) ?_
      exact zR.retE i_Mod_judge_46 rfl (by unfold judgeF; rw [if_neg (by decide), if_pos (by rw [e, nI_clamp (by omega)]; exact hp0), mres_self])
theorem e2_Mod_judge (X : zX) (d : Nat) (g : zH) (ms : zMS) (cnt : Nat) (hT : mTV ms 0 cnt) (hR : ∀ s : Nat, mfind ms 0 (nI s) 2 (nI 222) 1 = none) (sg : Nat) (hs : ms.2 2 0 = nI sg) (hsl : sg ≤ 200) (nr : Nat → Nat) (hN : ∀ p, p ≤ 99 → ms.2 22 p = nI (nr p) ∧ nr p ≤ 12) : zR X (d + 4) 121 0 (zent 6 [.ref 129, .int 2]) [] (mset g ms) (some (.int (judgeF (mV ms) (mseg ms) sg (ms.2 19) (ms.2 18) (mq ms) 2).1), mset g (mres ms (judgeF (mV ms) (mseg ms) sg (ms.2 19) (ms.2 18) (mq ms) 2).2)) := by
  have hb1 := mseg_b hs hsl 80 73 68 1 (by omega)
  have hb2 := mseg_b hs hsl 80 86 49 1 (by omega)
  refine zr_iload_n i_Mod_judge_0 rfl ?_
  refine zr_if_ne 7 i_Mod_judge_1 (by decide) (fun _ => ?_) (fun q => absurd q (by decide))
  refine zr_aload_n i_Mod_judge_7 rfl ?_
  refine zr_aload_n i_Mod_judge_8 rfl ?_
  refine zr_bipush i_Mod_judge_9 (v := 80) (by decide) ?_
  refine zr_bipush i_Mod_judge_11 (v := 73) (by decide) ?_
  refine zr_bipush i_Mod_judge_13 (v := 68) (by decide) ?_
  refine zn_iconst 1 i_Mod_judge_15 (by decide) ?_
  refine zr_cv4 i_Mod_judge_16 rfl (by decide) rfl (Nat.le_of_ble_eq_true rfl) (Nat.le_of_ble_eq_true rfl) (e_Mod_segment X _ g ms sg _ _ _ _ hs hsl (by omega) (by omega)) ?_
  refine zr_cv1 i_Mod_judge_19 rfl (by decide) rfl (Nat.le_of_ble_eq_true rfl) (Nat.le_of_ble_eq_true rfl) (e_Mod_patientIn X _ g ms cnt hT _ (by omega)) ?_
  refine zr_istore_n i_Mod_judge_22 rfl ?_
  refine zr_aload_n i_Mod_judge_23 rfl ?_
  refine zr_aload_n i_Mod_judge_24 rfl ?_
  refine zr_bipush i_Mod_judge_25 (v := 80) (by decide) ?_
  refine zr_bipush i_Mod_judge_27 (v := 86) (by decide) ?_
  refine zr_bipush i_Mod_judge_29 (v := 49) (by decide) ?_
  refine zn_iconst 1 i_Mod_judge_31 (by decide) ?_
  refine zr_cv4 i_Mod_judge_32 rfl (by decide) rfl (Nat.le_of_ble_eq_true rfl) (Nat.le_of_ble_eq_true rfl) (e_Mod_segment X _ g ms sg _ _ _ _ hs hsl (by omega) (by omega)) ?_
  refine zr_cv1 i_Mod_judge_35 rfl (by decide) rfl (Nat.le_of_ble_eq_true rfl) (Nat.le_of_ble_eq_true rfl) (e_Mod_bedIn X _ g ms cnt hT _ (by omega)) ?_
  refine zr_istore_n i_Mod_judge_38 rfl ?_
  rcases patF_b (mV ms) (mseg ms 80 73 68 1) with e | ⟨p, hp, e⟩
  · rw [e]
    refine zr_iload_n i_Mod_judge_39 rfl ?_
    refine zr_iconst i_Mod_judge_40 (v := 1) (by decide) ?_
    refine zr_icmp_ge 47 i_Mod_judge_41 (by decide) (fun q => absurd q (by decide)) (fun _ => ?_)
    refine zr_bipush i_Mod_judge_44 (v := 11) (by decide) ?_
    exact zR.retE i_Mod_judge_46 rfl (by simp [judgeF, mres_self, show (-1 : Int32).toNatClampNeg = 0 from rfl, *])
  · rw [e]
    refine zr_iload_n i_Mod_judge_39 rfl ?_
    refine zn_iconst 1 i_Mod_judge_40 (by decide) ?_
    refine zn_icmp_ge 47 i_Mod_judge_41 (by decide) (by omega) (by omega) (fun c_41 => ?_) (fun c_41 => ?_)
    · skip
      have hp0 : p ≠ 0 := by omega
      refine zr_iload_n i_Mod_judge_47 rfl ?_
      refine zr_iconst i_Mod_judge_48 (v := 1) (by decide) ?_
      refine zr_icmp_eq 57 i_Mod_judge_49 (by decide) (fun q => absurd q (by decide)) (fun _ => ?_)
      refine zr_iload_n i_Mod_judge_52 rfl ?_
      refine zr_iconst i_Mod_judge_53 (v := 2) (by decide) ?_
      refine zr_icmp_ne 61 i_Mod_judge_54 (by decide) (fun q => absurd q (by decide)) (fun _ => ?_)
      refine zr_iconst i_Mod_judge_57 (v := 1) (by decide) ?_
      refine zr_goto 62 i_Mod_judge_58 (by decide) ?_
      refine zr_istore i_Mod_judge_62 rfl ?_
      refine zr_iload i_Mod_judge_64 rfl ?_
      refine zr_if_eq 76 i_Mod_judge_66 (by decide) (fun q => absurd q (by decide)) (fun _ => ?_)
      refine zr_iload_n i_Mod_judge_69 rfl ?_
      refine zr_if_ge 76 i_Mod_judge_70 (by decide) (fun c_70 => ?_) (fun c_70 => ?_)
      · skip
        refine zr_aload_n i_Mod_judge_76 rfl ?_
        refine zr_getf i_Mod_judge_77 rfl rfl rfl ?_
        refine zr_iload_n i_Mod_judge_80 rfl ?_
        refine zn_iaload i_Mod_judge_81 rfl (by omega) (by decide) ?_
        refine zr_if_lt 89 i_Mod_judge_82 (by decide) (fun c_82 => ?_) (fun c_82 => ?_)
        · skip
          refine zr_iconst i_Mod_judge_89 (v := 0) (by decide) ?_
          refine zr_istore i_Mod_judge_90 rfl ?_
          refine zr_iload i_Mod_judge_92 rfl ?_
          refine zr_if_ne 116 i_Mod_judge_94 (by decide) (fun q => absurd q (by decide)) (fun _ => ?_)
          refine zr_iload_n i_Mod_judge_97 rfl ?_
          refine zr_iconst i_Mod_judge_98 (v := 2) (by decide) ?_
          refine zr_icmp_eq 113 i_Mod_judge_99 (by decide) (fun _ => ?_) (fun q => absurd q (by decide))
          refine zr_bipush i_Mod_judge_113 (v := 13) (by decide) ?_
          exact zR.retE i_Mod_judge_115 rfl (by simp [judgeF, mres_self, nI_clamp (show p < 2 ^ 31 by omega), *])
        · skip
          refine zr_iconst i_Mod_judge_85 (v := 1) (by decide) ?_
          refine zr_goto 90 i_Mod_judge_86 (by decide) ?_
          refine zr_istore i_Mod_judge_90 rfl ?_
          refine zr_iload i_Mod_judge_92 rfl ?_
          refine zr_if_ne 116 i_Mod_judge_94 (by decide) (fun _ => ?_) (fun q => absurd q (by decide))
          refine zr_iload i_Mod_judge_116 rfl ?_
          refine zr_if_eq 129 i_Mod_judge_118 (by decide) (fun q => absurd q (by decide)) (fun _ => ?_)
          refine zr_iload_n i_Mod_judge_121 rfl ?_
          refine zr_iconst i_Mod_judge_122 (v := 1) (by decide) ?_
          refine zr_icmp_ne 129 i_Mod_judge_123 (by decide) (fun _ => ?_) (fun q => absurd q (by decide))
          refine zr_iload i_Mod_judge_129 rfl ?_
          refine zr_if_eq 145 i_Mod_judge_131 (by decide) (fun q => absurd q (by decide)) (fun _ => ?_)
          refine zr_aload_n i_Mod_judge_134 rfl ?_
          refine zr_iload_n i_Mod_judge_135 rfl ?_
          refine zr_cv1 i_Mod_judge_136 rfl (by decide) rfl (Nat.le_of_ble_eq_true rfl) (Nat.le_of_ble_eq_true rfl) (e_Mod_whoIsIn X _ g ms _) ?_
          refine zN_if_eq 145 i_Mod_judge_139 (by decide) (by have := whoF_b (ms.2 19) (bedF (mV ms) (mseg ms 80 86 49 1)); omega) (fun c_139 => ?_) (fun c_139 => ?_)
          · skip
            refine zr_iload_n i_Mod_judge_145 rfl ?_
            refine zr_bipush i_Mod_judge_146 (v := 8) (by decide) ?_
            refine zr_icmp_ne 163 i_Mod_judge_148 (by decide) (fun _ => ?_) (fun q => absurd q (by decide))
            refine zr_iload_n i_Mod_judge_163 rfl ?_
            refine zr_bipush i_Mod_judge_164 (v := 9) (by decide) ?_
            refine zr_icmp_eq 173 i_Mod_judge_166 (by decide) (fun q => absurd q (by decide)) (fun _ => ?_)
            refine zr_iconst i_Mod_judge_169 (v := 0) (by decide) ?_
            refine zr_goto 199 i_Mod_judge_170 (by decide) ?_
            exact zR.retE i_Mod_judge_199 rfl (by simp [judgeF, mres_self, nI_clamp (show p < 2 ^ 31 by omega), *])
          · skip
            refine zr_bipush i_Mod_judge_142 (v := 15) (by decide) ?_
            exact zR.retE i_Mod_judge_144 rfl (by simp [judgeF, mres_self, nI_clamp (show p < 2 ^ 31 by omega), *])
      · skip
        refine zr_bipush i_Mod_judge_73 (v := 12) (by decide) ?_
        exact zR.retE i_Mod_judge_75 rfl (by simp [judgeF, mres_self, nI_clamp (show p < 2 ^ 31 by omega), *])
    · skip
      have hp0 : p = 0 := by omega
      refine zr_bipush i_Mod_judge_44 (v := 11) (by decide) ?_
      exact zR.retE i_Mod_judge_46 rfl (by unfold judgeF; rw [if_neg (by decide), if_pos (by rw [e, nI_clamp (by omega)]; exact hp0), mres_self])
theorem e3_Mod_judge (X : zX) (d : Nat) (g : zH) (ms : zMS) (cnt : Nat) (hT : mTV ms 0 cnt) (hR : ∀ s : Nat, mfind ms 0 (nI s) 2 (nI 222) 1 = none) (sg : Nat) (hs : ms.2 2 0 = nI sg) (hsl : sg ≤ 200) (nr : Nat → Nat) (hN : ∀ p, p ≤ 99 → ms.2 22 p = nI (nr p) ∧ nr p ≤ 12) : zR X (d + 4) 121 0 (zent 6 [.ref 129, .int 3]) [] (mset g ms) (some (.int (judgeF (mV ms) (mseg ms) sg (ms.2 19) (ms.2 18) (mq ms) 3).1), mset g (mres ms (judgeF (mV ms) (mseg ms) sg (ms.2 19) (ms.2 18) (mq ms) 3).2)) := by
  have hb1 := mseg_b hs hsl 80 73 68 1 (by omega)
  have hb2 := mseg_b hs hsl 80 86 49 1 (by omega)
  refine zr_iload_n i_Mod_judge_0 rfl ?_
  refine zr_if_ne 7 i_Mod_judge_1 (by decide) (fun _ => ?_) (fun q => absurd q (by decide))
  refine zr_aload_n i_Mod_judge_7 rfl ?_
  refine zr_aload_n i_Mod_judge_8 rfl ?_
  refine zr_bipush i_Mod_judge_9 (v := 80) (by decide) ?_
  refine zr_bipush i_Mod_judge_11 (v := 73) (by decide) ?_
  refine zr_bipush i_Mod_judge_13 (v := 68) (by decide) ?_
  refine zn_iconst 1 i_Mod_judge_15 (by decide) ?_
  refine zr_cv4 i_Mod_judge_16 rfl (by decide) rfl (Nat.le_of_ble_eq_true rfl) (Nat.le_of_ble_eq_true rfl) (e_Mod_segment X _ g ms sg _ _ _ _ hs hsl (by omega) (by omega)) ?_
  refine zr_cv1 i_Mod_judge_19 rfl (by decide) rfl (Nat.le_of_ble_eq_true rfl) (Nat.le_of_ble_eq_true rfl) (e_Mod_patientIn X _ g ms cnt hT _ (by omega)) ?_
  refine zr_istore_n i_Mod_judge_22 rfl ?_
  refine zr_aload_n i_Mod_judge_23 rfl ?_
  refine zr_aload_n i_Mod_judge_24 rfl ?_
  refine zr_bipush i_Mod_judge_25 (v := 80) (by decide) ?_
  refine zr_bipush i_Mod_judge_27 (v := 86) (by decide) ?_
  refine zr_bipush i_Mod_judge_29 (v := 49) (by decide) ?_
  refine zn_iconst 1 i_Mod_judge_31 (by decide) ?_
  refine zr_cv4 i_Mod_judge_32 rfl (by decide) rfl (Nat.le_of_ble_eq_true rfl) (Nat.le_of_ble_eq_true rfl) (e_Mod_segment X _ g ms sg _ _ _ _ hs hsl (by omega) (by omega)) ?_
  refine zr_cv1 i_Mod_judge_35 rfl (by decide) rfl (Nat.le_of_ble_eq_true rfl) (Nat.le_of_ble_eq_true rfl) (e_Mod_bedIn X _ g ms cnt hT _ (by omega)) ?_
  refine zr_istore_n i_Mod_judge_38 rfl ?_
  rcases patF_b (mV ms) (mseg ms 80 73 68 1) with e | ⟨p, hp, e⟩
  · rw [e]
    refine zr_iload_n i_Mod_judge_39 rfl ?_
    refine zr_iconst i_Mod_judge_40 (v := 1) (by decide) ?_
    refine zr_icmp_ge 47 i_Mod_judge_41 (by decide) (fun q => absurd q (by decide)) (fun _ => ?_)
    refine zr_bipush i_Mod_judge_44 (v := 11) (by decide) ?_
    exact zR.retE i_Mod_judge_46 rfl (by simp [judgeF, mres_self, show (-1 : Int32).toNatClampNeg = 0 from rfl, *])
  · rw [e]
    refine zr_iload_n i_Mod_judge_39 rfl ?_
    refine zn_iconst 1 i_Mod_judge_40 (by decide) ?_
    refine zn_icmp_ge 47 i_Mod_judge_41 (by decide) (by omega) (by omega) (fun c_41 => ?_) (fun c_41 => ?_)
    · skip
      have hp0 : p ≠ 0 := by omega
      refine zr_iload_n i_Mod_judge_47 rfl ?_
      refine zr_iconst i_Mod_judge_48 (v := 1) (by decide) ?_
      refine zr_icmp_eq 57 i_Mod_judge_49 (by decide) (fun q => absurd q (by decide)) (fun _ => ?_)
      refine zr_iload_n i_Mod_judge_52 rfl ?_
      refine zr_iconst i_Mod_judge_53 (v := 2) (by decide) ?_
      refine zr_icmp_ne 61 i_Mod_judge_54 (by decide) (fun _ => ?_) (fun q => absurd q (by decide))
      refine zr_iconst i_Mod_judge_61 (v := 0) (by decide) ?_
      refine zr_istore i_Mod_judge_62 rfl ?_
      refine zr_iload i_Mod_judge_64 rfl ?_
      refine zr_if_eq 76 i_Mod_judge_66 (by decide) (fun _ => ?_) (fun q => absurd q (by decide))
      refine zr_aload_n i_Mod_judge_76 rfl ?_
      refine zr_getf i_Mod_judge_77 rfl rfl rfl ?_
      refine zr_iload_n i_Mod_judge_80 rfl ?_
      refine zn_iaload i_Mod_judge_81 rfl (by omega) (by decide) ?_
      refine zr_if_lt 89 i_Mod_judge_82 (by decide) (fun c_82 => ?_) (fun c_82 => ?_)
      · skip
        refine zr_iconst i_Mod_judge_89 (v := 0) (by decide) ?_
        refine zr_istore i_Mod_judge_90 rfl ?_
        refine zr_iload i_Mod_judge_92 rfl ?_
        refine zr_if_ne 116 i_Mod_judge_94 (by decide) (fun q => absurd q (by decide)) (fun _ => ?_)
        refine zr_iload_n i_Mod_judge_97 rfl ?_
        refine zr_iconst i_Mod_judge_98 (v := 2) (by decide) ?_
        refine zr_icmp_eq 113 i_Mod_judge_99 (by decide) (fun q => absurd q (by decide)) (fun _ => ?_)
        refine zr_iload_n i_Mod_judge_102 rfl ?_
        refine zr_iconst i_Mod_judge_103 (v := 3) (by decide) ?_
        refine zr_icmp_eq 113 i_Mod_judge_104 (by decide) (fun _ => ?_) (fun q => absurd q (by decide))
        refine zr_bipush i_Mod_judge_113 (v := 13) (by decide) ?_
        exact zR.retE i_Mod_judge_115 rfl (by simp [judgeF, mres_self, nI_clamp (show p < 2 ^ 31 by omega), *])
      · skip
        refine zr_iconst i_Mod_judge_85 (v := 1) (by decide) ?_
        refine zr_goto 90 i_Mod_judge_86 (by decide) ?_
        refine zr_istore i_Mod_judge_90 rfl ?_
        refine zr_iload i_Mod_judge_92 rfl ?_
        refine zr_if_ne 116 i_Mod_judge_94 (by decide) (fun _ => ?_) (fun q => absurd q (by decide))
        refine zr_iload i_Mod_judge_116 rfl ?_
        refine zr_if_eq 129 i_Mod_judge_118 (by decide) (fun q => absurd q (by decide)) (fun _ => ?_)
        refine zr_iload_n i_Mod_judge_121 rfl ?_
        refine zr_iconst i_Mod_judge_122 (v := 1) (by decide) ?_
        refine zr_icmp_ne 129 i_Mod_judge_123 (by decide) (fun _ => ?_) (fun q => absurd q (by decide))
        refine zr_iload i_Mod_judge_129 rfl ?_
        refine zr_if_eq 145 i_Mod_judge_131 (by decide) (fun _ => ?_) (fun q => absurd q (by decide))
        refine zr_iload_n i_Mod_judge_145 rfl ?_
        refine zr_bipush i_Mod_judge_146 (v := 8) (by decide) ?_
        refine zr_icmp_ne 163 i_Mod_judge_148 (by decide) (fun _ => ?_) (fun q => absurd q (by decide))
        refine zr_iload_n i_Mod_judge_163 rfl ?_
        refine zr_bipush i_Mod_judge_164 (v := 9) (by decide) ?_
        refine zr_icmp_eq 173 i_Mod_judge_166 (by decide) (fun q => absurd q (by decide)) (fun _ => ?_)
        refine zr_iconst i_Mod_judge_169 (v := 0) (by decide) ?_
        refine zr_goto 199 i_Mod_judge_170 (by decide) ?_
        exact zR.retE i_Mod_judge_199 rfl (by simp [judgeF, mres_self, nI_clamp (show p < 2 ^ 31 by omega), *])
    · skip
      have hp0 : p = 0 := by omega
      refine zr_bipush i_Mod_judge_44 (v := 11) (by decide) ?_
      exact zR.retE i_Mod_judge_46 rfl (by unfold judgeF; rw [if_neg (by decide), if_pos (by rw [e, nI_clamp (by omega)]; exact hp0), mres_self])
theorem e8_Mod_judge (X : zX) (d : Nat) (g : zH) (ms : zMS) (cnt : Nat) (hT : mTV ms 0 cnt) (hR : ∀ s : Nat, mfind ms 0 (nI s) 2 (nI 222) 1 = none) (sg : Nat) (hs : ms.2 2 0 = nI sg) (hsl : sg ≤ 200) (nr : Nat → Nat) (hN : ∀ p, p ≤ 99 → ms.2 22 p = nI (nr p) ∧ nr p ≤ 12) : zR X (d + 4) 121 0 (zent 6 [.ref 129, .int 8]) [] (mset g ms) (some (.int (judgeF (mV ms) (mseg ms) sg (ms.2 19) (ms.2 18) (mq ms) 8).1), mset g (mres ms (judgeF (mV ms) (mseg ms) sg (ms.2 19) (ms.2 18) (mq ms) 8).2)) := by
  have hb1 := mseg_b hs hsl 80 73 68 1 (by omega)
  have hb2 := mseg_b hs hsl 80 86 49 1 (by omega)
  refine zr_iload_n i_Mod_judge_0 rfl ?_
  refine zr_if_ne 7 i_Mod_judge_1 (by decide) (fun _ => ?_) (fun q => absurd q (by decide))
  refine zr_aload_n i_Mod_judge_7 rfl ?_
  refine zr_aload_n i_Mod_judge_8 rfl ?_
  refine zr_bipush i_Mod_judge_9 (v := 80) (by decide) ?_
  refine zr_bipush i_Mod_judge_11 (v := 73) (by decide) ?_
  refine zr_bipush i_Mod_judge_13 (v := 68) (by decide) ?_
  refine zn_iconst 1 i_Mod_judge_15 (by decide) ?_
  refine zr_cv4 i_Mod_judge_16 rfl (by decide) rfl (Nat.le_of_ble_eq_true rfl) (Nat.le_of_ble_eq_true rfl) (e_Mod_segment X _ g ms sg _ _ _ _ hs hsl (by omega) (by omega)) ?_
  refine zr_cv1 i_Mod_judge_19 rfl (by decide) rfl (Nat.le_of_ble_eq_true rfl) (Nat.le_of_ble_eq_true rfl) (e_Mod_patientIn X _ g ms cnt hT _ (by omega)) ?_
  refine zr_istore_n i_Mod_judge_22 rfl ?_
  refine zr_aload_n i_Mod_judge_23 rfl ?_
  refine zr_aload_n i_Mod_judge_24 rfl ?_
  refine zr_bipush i_Mod_judge_25 (v := 80) (by decide) ?_
  refine zr_bipush i_Mod_judge_27 (v := 86) (by decide) ?_
  refine zr_bipush i_Mod_judge_29 (v := 49) (by decide) ?_
  refine zn_iconst 1 i_Mod_judge_31 (by decide) ?_
  refine zr_cv4 i_Mod_judge_32 rfl (by decide) rfl (Nat.le_of_ble_eq_true rfl) (Nat.le_of_ble_eq_true rfl) (e_Mod_segment X _ g ms sg _ _ _ _ hs hsl (by omega) (by omega)) ?_
  refine zr_cv1 i_Mod_judge_35 rfl (by decide) rfl (Nat.le_of_ble_eq_true rfl) (Nat.le_of_ble_eq_true rfl) (e_Mod_bedIn X _ g ms cnt hT _ (by omega)) ?_
  refine zr_istore_n i_Mod_judge_38 rfl ?_
  rcases patF_b (mV ms) (mseg ms 80 73 68 1) with e | ⟨p, hp, e⟩
  · rw [e]
    refine zr_iload_n i_Mod_judge_39 rfl ?_
    refine zr_iconst i_Mod_judge_40 (v := 1) (by decide) ?_
    refine zr_icmp_ge 47 i_Mod_judge_41 (by decide) (fun q => absurd q (by decide)) (fun _ => ?_)
    refine zr_bipush i_Mod_judge_44 (v := 11) (by decide) ?_
    exact zR.retE i_Mod_judge_46 rfl (by simp [judgeF, mres_self, show (-1 : Int32).toNatClampNeg = 0 from rfl, *])
  · rw [e]
    refine zr_iload_n i_Mod_judge_39 rfl ?_
    refine zn_iconst 1 i_Mod_judge_40 (by decide) ?_
    refine zn_icmp_ge 47 i_Mod_judge_41 (by decide) (by omega) (by omega) (fun c_41 => ?_) (fun c_41 => ?_)
    · skip
      have hp0 : p ≠ 0 := by omega
      refine zr_iload_n i_Mod_judge_47 rfl ?_
      refine zr_iconst i_Mod_judge_48 (v := 1) (by decide) ?_
      refine zr_icmp_eq 57 i_Mod_judge_49 (by decide) (fun q => absurd q (by decide)) (fun _ => ?_)
      refine zr_iload_n i_Mod_judge_52 rfl ?_
      refine zr_iconst i_Mod_judge_53 (v := 2) (by decide) ?_
      refine zr_icmp_ne 61 i_Mod_judge_54 (by decide) (fun _ => ?_) (fun q => absurd q (by decide))
      refine zr_iconst i_Mod_judge_61 (v := 0) (by decide) ?_
      refine zr_istore i_Mod_judge_62 rfl ?_
      refine zr_iload i_Mod_judge_64 rfl ?_
      refine zr_if_eq 76 i_Mod_judge_66 (by decide) (fun _ => ?_) (fun q => absurd q (by decide))
      refine zr_aload_n i_Mod_judge_76 rfl ?_
      refine zr_getf i_Mod_judge_77 rfl rfl rfl ?_
      refine zr_iload_n i_Mod_judge_80 rfl ?_
      refine zn_iaload i_Mod_judge_81 rfl (by omega) (by decide) ?_
      refine zr_if_lt 89 i_Mod_judge_82 (by decide) (fun c_82 => ?_) (fun c_82 => ?_)
      · skip
        refine zr_iconst i_Mod_judge_89 (v := 0) (by decide) ?_
        refine zr_istore i_Mod_judge_90 rfl ?_
        refine zr_iload i_Mod_judge_92 rfl ?_
        refine zr_if_ne 116 i_Mod_judge_94 (by decide) (fun q => absurd q (by decide)) (fun _ => ?_)
        refine zr_iload_n i_Mod_judge_97 rfl ?_
        refine zr_iconst i_Mod_judge_98 (v := 2) (by decide) ?_
        refine zr_icmp_eq 113 i_Mod_judge_99 (by decide) (fun q => absurd q (by decide)) (fun _ => ?_)
        refine zr_iload_n i_Mod_judge_102 rfl ?_
        refine zr_iconst i_Mod_judge_103 (v := 3) (by decide) ?_
        refine zr_icmp_eq 113 i_Mod_judge_104 (by decide) (fun q => absurd q (by decide)) (fun _ => ?_)
        refine zr_iload_n i_Mod_judge_107 rfl ?_
        refine zr_bipush i_Mod_judge_108 (v := 9) (by decide) ?_
        refine zr_icmp_ne 116 i_Mod_judge_110 (by decide) (fun _ => ?_) (fun q => absurd q (by decide))
        refine zr_iload i_Mod_judge_116 rfl ?_
        refine zr_if_eq 129 i_Mod_judge_118 (by decide) (fun _ => ?_) (fun q => absurd q (by decide))
        refine zr_iload i_Mod_judge_129 rfl ?_
        refine zr_if_eq 145 i_Mod_judge_131 (by decide) (fun _ => ?_) (fun q => absurd q (by decide))
        refine zr_iload_n i_Mod_judge_145 rfl ?_
        refine zr_bipush i_Mod_judge_146 (v := 8) (by decide) ?_
        refine zr_icmp_ne 163 i_Mod_judge_148 (by decide) (fun q => absurd q (by decide)) (fun _ => ?_)
        refine zr_aload_n i_Mod_judge_151 rfl ?_
        refine zr_getf i_Mod_judge_152 rfl rfl rfl ?_
        refine zr_iload_n i_Mod_judge_155 rfl ?_
        refine zn_baload i_Mod_judge_156 rfl (by omega) (by decide) ?_
        refine zr_if_ne 163 i_Mod_judge_157 (by decide) (fun c_157 => ?_) (fun c_157 => ?_)
        · skip
          refine zr_iload_n i_Mod_judge_163 rfl ?_
          refine zr_bipush i_Mod_judge_164 (v := 9) (by decide) ?_
          refine zr_icmp_eq 173 i_Mod_judge_166 (by decide) (fun q => absurd q (by decide)) (fun _ => ?_)
          refine zr_iconst i_Mod_judge_169 (v := 0) (by decide) ?_
          refine zr_goto 199 i_Mod_judge_170 (by decide) ?_
          exact zR.retE i_Mod_judge_199 rfl (by simp [judgeF, mres_self, nI_clamp (show p < 2 ^ 31 by omega), *])
        · skip
          refine zr_bipush i_Mod_judge_160 (v := 16) (by decide) ?_
          exact zR.retE i_Mod_judge_162 rfl (by simp [judgeF, mres_self, nI_clamp (show p < 2 ^ 31 by omega), *])
      · skip
        refine zr_iconst i_Mod_judge_85 (v := 1) (by decide) ?_
        refine zr_goto 90 i_Mod_judge_86 (by decide) ?_
        refine zr_istore i_Mod_judge_90 rfl ?_
        refine zr_iload i_Mod_judge_92 rfl ?_
        refine zr_if_ne 116 i_Mod_judge_94 (by decide) (fun _ => ?_) (fun q => absurd q (by decide))
        refine zr_iload i_Mod_judge_116 rfl ?_
        refine zr_if_eq 129 i_Mod_judge_118 (by decide) (fun q => absurd q (by decide)) (fun _ => ?_)
        refine zr_iload_n i_Mod_judge_121 rfl ?_
        refine zr_iconst i_Mod_judge_122 (v := 1) (by decide) ?_
        refine zr_icmp_ne 129 i_Mod_judge_123 (by decide) (fun _ => ?_) (fun q => absurd q (by decide))
        refine zr_iload i_Mod_judge_129 rfl ?_
        refine zr_if_eq 145 i_Mod_judge_131 (by decide) (fun _ => ?_) (fun q => absurd q (by decide))
        refine zr_iload_n i_Mod_judge_145 rfl ?_
        refine zr_bipush i_Mod_judge_146 (v := 8) (by decide) ?_
        refine zr_icmp_ne 163 i_Mod_judge_148 (by decide) (fun q => absurd q (by decide)) (fun _ => ?_)
        refine zr_aload_n i_Mod_judge_151 rfl ?_
        refine zr_getf i_Mod_judge_152 rfl rfl rfl ?_
        refine zr_iload_n i_Mod_judge_155 rfl ?_
        refine zn_baload i_Mod_judge_156 rfl (by omega) (by decide) ?_
        refine zr_if_ne 163 i_Mod_judge_157 (by decide) (fun c_157 => ?_) (fun c_157 => ?_)
        · skip
          refine zr_iload_n i_Mod_judge_163 rfl ?_
          refine zr_bipush i_Mod_judge_164 (v := 9) (by decide) ?_
          refine zr_icmp_eq 173 i_Mod_judge_166 (by decide) (fun q => absurd q (by decide)) (fun _ => ?_)
          refine zr_iconst i_Mod_judge_169 (v := 0) (by decide) ?_
          refine zr_goto 199 i_Mod_judge_170 (by decide) ?_
          exact zR.retE i_Mod_judge_199 rfl (by simp [judgeF, mres_self, nI_clamp (show p < 2 ^ 31 by omega), *])
        · skip
          refine zr_bipush i_Mod_judge_160 (v := 16) (by decide) ?_
          exact zR.retE i_Mod_judge_162 rfl (by simp [judgeF, mres_self, nI_clamp (show p < 2 ^ 31 by omega), *])
    · skip
      have hp0 : p = 0 := by omega
      refine zr_bipush i_Mod_judge_44 (v := 11) (by decide) ?_
      exact zR.retE i_Mod_judge_46 rfl (by unfold judgeF; rw [if_neg (by decide), if_pos (by rw [e, nI_clamp (by omega)]; exact hp0), mres_self])
theorem e9_Mod_judge (X : zX) (d : Nat) (g : zH) (ms : zMS) (cnt : Nat) (hT : mTV ms 0 cnt) (hR : ∀ s : Nat, mfind ms 0 (nI s) 2 (nI 222) 1 = none) (sg : Nat) (hs : ms.2 2 0 = nI sg) (hsl : sg ≤ 200) (nr : Nat → Nat) (hN : ∀ p, p ≤ 99 → ms.2 22 p = nI (nr p) ∧ nr p ≤ 12) : zR X (d + 4) 121 0 (zent 6 [.ref 129, .int 9]) [] (mset g ms) (some (.int (judgeF (mV ms) (mseg ms) sg (ms.2 19) (ms.2 18) (mq ms) 9).1), mset g (mres ms (judgeF (mV ms) (mseg ms) sg (ms.2 19) (ms.2 18) (mq ms) 9).2)) := by
  have hb1 := mseg_b hs hsl 80 73 68 1 (by omega)
  have hb2 := mseg_b hs hsl 80 86 49 1 (by omega)
  refine zr_iload_n i_Mod_judge_0 rfl ?_
  refine zr_if_ne 7 i_Mod_judge_1 (by decide) (fun _ => ?_) (fun q => absurd q (by decide))
  refine zr_aload_n i_Mod_judge_7 rfl ?_
  refine zr_aload_n i_Mod_judge_8 rfl ?_
  refine zr_bipush i_Mod_judge_9 (v := 80) (by decide) ?_
  refine zr_bipush i_Mod_judge_11 (v := 73) (by decide) ?_
  refine zr_bipush i_Mod_judge_13 (v := 68) (by decide) ?_
  refine zn_iconst 1 i_Mod_judge_15 (by decide) ?_
  refine zr_cv4 i_Mod_judge_16 rfl (by decide) rfl (Nat.le_of_ble_eq_true rfl) (Nat.le_of_ble_eq_true rfl) (e_Mod_segment X _ g ms sg _ _ _ _ hs hsl (by omega) (by omega)) ?_
  refine zr_cv1 i_Mod_judge_19 rfl (by decide) rfl (Nat.le_of_ble_eq_true rfl) (Nat.le_of_ble_eq_true rfl) (e_Mod_patientIn X _ g ms cnt hT _ (by omega)) ?_
  refine zr_istore_n i_Mod_judge_22 rfl ?_
  refine zr_aload_n i_Mod_judge_23 rfl ?_
  refine zr_aload_n i_Mod_judge_24 rfl ?_
  refine zr_bipush i_Mod_judge_25 (v := 80) (by decide) ?_
  refine zr_bipush i_Mod_judge_27 (v := 86) (by decide) ?_
  refine zr_bipush i_Mod_judge_29 (v := 49) (by decide) ?_
  refine zn_iconst 1 i_Mod_judge_31 (by decide) ?_
  refine zr_cv4 i_Mod_judge_32 rfl (by decide) rfl (Nat.le_of_ble_eq_true rfl) (Nat.le_of_ble_eq_true rfl) (e_Mod_segment X _ g ms sg _ _ _ _ hs hsl (by omega) (by omega)) ?_
  refine zr_cv1 i_Mod_judge_35 rfl (by decide) rfl (Nat.le_of_ble_eq_true rfl) (Nat.le_of_ble_eq_true rfl) (e_Mod_bedIn X _ g ms cnt hT _ (by omega)) ?_
  refine zr_istore_n i_Mod_judge_38 rfl ?_
  rcases patF_b (mV ms) (mseg ms 80 73 68 1) with e | ⟨p, hp, e⟩
  · rw [e]
    refine zr_iload_n i_Mod_judge_39 rfl ?_
    refine zr_iconst i_Mod_judge_40 (v := 1) (by decide) ?_
    refine zr_icmp_ge 47 i_Mod_judge_41 (by decide) (fun q => absurd q (by decide)) (fun _ => ?_)
    refine zr_bipush i_Mod_judge_44 (v := 11) (by decide) ?_
    exact zR.retE i_Mod_judge_46 rfl (by simp [judgeF, mres_self, show (-1 : Int32).toNatClampNeg = 0 from rfl, *])
  · rw [e]
    refine zr_iload_n i_Mod_judge_39 rfl ?_
    refine zn_iconst 1 i_Mod_judge_40 (by decide) ?_
    refine zn_icmp_ge 47 i_Mod_judge_41 (by decide) (by omega) (by omega) (fun c_41 => ?_) (fun c_41 => ?_)
    · skip
      have hp0 : p ≠ 0 := by omega
      refine zr_iload_n i_Mod_judge_47 rfl ?_
      refine zr_iconst i_Mod_judge_48 (v := 1) (by decide) ?_
      refine zr_icmp_eq 57 i_Mod_judge_49 (by decide) (fun q => absurd q (by decide)) (fun _ => ?_)
      refine zr_iload_n i_Mod_judge_52 rfl ?_
      refine zr_iconst i_Mod_judge_53 (v := 2) (by decide) ?_
      refine zr_icmp_ne 61 i_Mod_judge_54 (by decide) (fun _ => ?_) (fun q => absurd q (by decide))
      refine zr_iconst i_Mod_judge_61 (v := 0) (by decide) ?_
      refine zr_istore i_Mod_judge_62 rfl ?_
      refine zr_iload i_Mod_judge_64 rfl ?_
      refine zr_if_eq 76 i_Mod_judge_66 (by decide) (fun _ => ?_) (fun q => absurd q (by decide))
      refine zr_aload_n i_Mod_judge_76 rfl ?_
      refine zr_getf i_Mod_judge_77 rfl rfl rfl ?_
      refine zr_iload_n i_Mod_judge_80 rfl ?_
      refine zn_iaload i_Mod_judge_81 rfl (by omega) (by decide) ?_
      refine zr_if_lt 89 i_Mod_judge_82 (by decide) (fun c_82 => ?_) (fun c_82 => ?_)
      · skip
        refine zr_iconst i_Mod_judge_89 (v := 0) (by decide) ?_
        refine zr_istore i_Mod_judge_90 rfl ?_
        refine zr_iload i_Mod_judge_92 rfl ?_
        refine zr_if_ne 116 i_Mod_judge_94 (by decide) (fun q => absurd q (by decide)) (fun _ => ?_)
        refine zr_iload_n i_Mod_judge_97 rfl ?_
        refine zr_iconst i_Mod_judge_98 (v := 2) (by decide) ?_
        refine zr_icmp_eq 113 i_Mod_judge_99 (by decide) (fun q => absurd q (by decide)) (fun _ => ?_)
        refine zr_iload_n i_Mod_judge_102 rfl ?_
        refine zr_iconst i_Mod_judge_103 (v := 3) (by decide) ?_
        refine zr_icmp_eq 113 i_Mod_judge_104 (by decide) (fun q => absurd q (by decide)) (fun _ => ?_)
        refine zr_iload_n i_Mod_judge_107 rfl ?_
        refine zr_bipush i_Mod_judge_108 (v := 9) (by decide) ?_
        refine zr_icmp_ne 116 i_Mod_judge_110 (by decide) (fun q => absurd q (by decide)) (fun _ => ?_)
        refine zr_bipush i_Mod_judge_113 (v := 13) (by decide) ?_
        exact zR.retE i_Mod_judge_115 rfl (by simp [judgeF, mres_self, nI_clamp (show p < 2 ^ 31 by omega), *])
      · skip
        refine zr_iconst i_Mod_judge_85 (v := 1) (by decide) ?_
        refine zr_goto 90 i_Mod_judge_86 (by decide) ?_
        refine zr_istore i_Mod_judge_90 rfl ?_
        refine zr_iload i_Mod_judge_92 rfl ?_
        refine zr_if_ne 116 i_Mod_judge_94 (by decide) (fun _ => ?_) (fun q => absurd q (by decide))
        refine zr_iload i_Mod_judge_116 rfl ?_
        refine zr_if_eq 129 i_Mod_judge_118 (by decide) (fun q => absurd q (by decide)) (fun _ => ?_)
        refine zr_iload_n i_Mod_judge_121 rfl ?_
        refine zr_iconst i_Mod_judge_122 (v := 1) (by decide) ?_
        refine zr_icmp_ne 129 i_Mod_judge_123 (by decide) (fun _ => ?_) (fun q => absurd q (by decide))
        refine zr_iload i_Mod_judge_129 rfl ?_
        refine zr_if_eq 145 i_Mod_judge_131 (by decide) (fun _ => ?_) (fun q => absurd q (by decide))
        refine zr_iload_n i_Mod_judge_145 rfl ?_
        refine zr_bipush i_Mod_judge_146 (v := 8) (by decide) ?_
        refine zr_icmp_ne 163 i_Mod_judge_148 (by decide) (fun _ => ?_) (fun q => absurd q (by decide))
        refine zr_iload_n i_Mod_judge_163 rfl ?_
        refine zr_bipush i_Mod_judge_164 (v := 9) (by decide) ?_
        refine zr_icmp_eq 173 i_Mod_judge_166 (by decide) (fun _ => ?_) (fun q => absurd q (by decide))
        refine zr_aload_n i_Mod_judge_173 rfl ?_
        refine zr_cv0 i_Mod_judge_174 rfl (by decide) rfl (Nat.le_of_ble_eq_true rfl) (Nat.le_of_ble_eq_true rfl) (e_Mod_wrongResults X _ g ms cnt hT hR sg hs hsl) ?_
        refine zB_if_eq 185 i_Mod_judge_177 (by decide) (fun c_177 => ?_) (fun c_177 => ?_)
        · skip
          refine zr_aload_n i_Mod_judge_185 rfl ?_
          refine zr_iload_n i_Mod_judge_186 rfl ?_
          refine zr_cv1 i_Mod_judge_187 rfl (by decide) rfl (Nat.le_of_ble_eq_true rfl) (Nat.le_of_ble_eq_true rfl) (e_Mod_tryResults X _ g ms cnt hT hR sg hs hsl p _ hp (hN p hp).1 (hN p hp).2) ?_
          refine zB_if_eq 197 i_Mod_judge_190 (by decide) (fun c_190 => ?_) (fun c_190 => ?_)
          · skip
            refine zr_bipush i_Mod_judge_197 (v := 18) (by decide) ?_
            exact zR.retE i_Mod_judge_199 rfl (by simp [judgeF, mres_self, nI_clamp (show p < 2 ^ 31 by omega), *])
          · skip
            refine zr_iconst i_Mod_judge_193 (v := 0) (by decide) ?_
            refine zr_goto 199 i_Mod_judge_194 (by decide) ?_
            exact zR.retE i_Mod_judge_199 rfl (by simp [judgeF, mres_self, nI_clamp (show p < 2 ^ 31 by omega), *])
        · skip
          refine zr_bipush i_Mod_judge_180 (v := 17) (by decide) ?_
          refine zr_goto 199 i_Mod_judge_182 (by decide) ?_
          exact zR.retE i_Mod_judge_199 rfl (by simp [judgeF, mres_self, nI_clamp (show p < 2 ^ 31 by omega), *])
    · skip
      have hp0 : p = 0 := by omega
      refine zr_bipush i_Mod_judge_44 (v := 11) (by decide) ?_
      exact zR.retE i_Mod_judge_46 rfl (by unfold judgeF; rw [if_neg (by decide), if_pos (by rw [e, nI_clamp (by omega)]; exact hp0), mres_self])
def mB (ms : zMS) (b kn : Nat → Int32) : zMS := (ms.1, va_up (va_up ms.2 19 b) 18 kn)
/-- what an accepted message of a kind does -/
def actF (ms : zMS) (kind : Nat) : zMS :=
  let pid := mseg ms 80 73 68 1
  let p := (patF (mV ms) pid).toNatClampNeg
  let b := bedF (mV ms) (mseg ms 80 86 49 1)
  if kind = 1 then mnam (mB ms (upd (ms.2 19) p b) (upd (ms.2 18) p 1)) (takeQ (takeQ (mnq ms) (mV ms (nI pid) 2 1 1) p 0) (mV ms (nI pid) 2 1 2) p 1)
  else if kind = 2 then mB ms (upd (ms.2 19) p b) (upd (ms.2 18) p 1)
  else if kind = 3 then (ms.1, va_up ms.2 19 (upd (ms.2 19) p (-1)))
  else if kind = 8 then mnam ms (takeQ (takeQ (mnq ms) (mV ms (nI pid) 2 1 1) p 0) (mV ms (nI pid) 2 1 2) p 1)
  else mres ms (copyQ (mq ms) 100 p)
theorem i_Mod_act_0 : zins 135 0 = some (.aload_n 0) := by decide +kernel
theorem i_Mod_act_1 : zins 135 1 = some (.bipush 80) := by decide +kernel
theorem i_Mod_act_3 : zins 135 3 = some (.bipush 73) := by decide +kernel
theorem i_Mod_act_5 : zins 135 5 = some (.bipush 68) := by decide +kernel
theorem i_Mod_act_7 : zins 135 7 = some (.iconst 1) := by decide +kernel
theorem i_Mod_act_8 : zins 135 8 = some (.invokevirtual 165) := by decide +kernel
theorem i_Mod_act_11 : zins 135 11 = some (.istore_n 2) := by decide +kernel
theorem i_Mod_act_12 : zins 135 12 = some (.aload_n 0) := by decide +kernel
theorem i_Mod_act_13 : zins 135 13 = some (.iload_n 2) := by decide +kernel
theorem i_Mod_act_14 : zins 135 14 = some (.invokevirtual 202) := by decide +kernel
theorem i_Mod_act_17 : zins 135 17 = some (.istore_n 3) := by decide +kernel
theorem i_Mod_act_18 : zins 135 18 = some (.iload_n 1) := by decide +kernel
theorem i_Mod_act_19 : zins 135 19 = some (.iconst 1) := by decide +kernel
theorem i_Mod_act_20 : zins 135 20 = some (.if_icmp .eq 8) := by decide +kernel
theorem i_Mod_act_23 : zins 135 23 = some (.iload_n 1) := by decide +kernel
theorem i_Mod_act_24 : zins 135 24 = some (.iconst 2) := by decide +kernel
theorem i_Mod_act_25 : zins 135 25 = some (.if_icmp .ne 31) := by decide +kernel
theorem i_Mod_act_28 : zins 135 28 = some (.aload_n 0) := by decide +kernel
theorem i_Mod_act_29 : zins 135 29 = some (.getfield 66) := by decide +kernel
theorem i_Mod_act_32 : zins 135 32 = some (.iload_n 3) := by decide +kernel
theorem i_Mod_act_33 : zins 135 33 = some (.aload_n 0) := by decide +kernel
theorem i_Mod_act_34 : zins 135 34 = some (.aload_n 0) := by decide +kernel
theorem i_Mod_act_35 : zins 135 35 = some (.bipush 80) := by decide +kernel
theorem i_Mod_act_37 : zins 135 37 = some (.bipush 86) := by decide +kernel
theorem i_Mod_act_39 : zins 135 39 = some (.bipush 49) := by decide +kernel
theorem i_Mod_act_41 : zins 135 41 = some (.iconst 1) := by decide +kernel
theorem i_Mod_act_42 : zins 135 42 = some (.invokevirtual 165) := by decide +kernel
theorem i_Mod_act_45 : zins 135 45 = some (.invokevirtual 205) := by decide +kernel
theorem i_Mod_act_48 : zins 135 48 = some (.iastore) := by decide +kernel
theorem i_Mod_act_49 : zins 135 49 = some (.aload_n 0) := by decide +kernel
theorem i_Mod_act_50 : zins 135 50 = some (.getfield 62) := by decide +kernel
theorem i_Mod_act_53 : zins 135 53 = some (.iload_n 3) := by decide +kernel
theorem i_Mod_act_54 : zins 135 54 = some (.iconst 1) := by decide +kernel
theorem i_Mod_act_55 : zins 135 55 = some (.bastore) := by decide +kernel
theorem i_Mod_act_56 : zins 135 56 = some (.iload_n 1) := by decide +kernel
theorem i_Mod_act_57 : zins 135 57 = some (.iconst 3) := by decide +kernel
theorem i_Mod_act_58 : zins 135 58 = some (.if_icmp .ne 10) := by decide +kernel
theorem i_Mod_act_61 : zins 135 61 = some (.aload_n 0) := by decide +kernel
theorem i_Mod_act_62 : zins 135 62 = some (.getfield 66) := by decide +kernel
theorem i_Mod_act_65 : zins 135 65 = some (.iload_n 3) := by decide +kernel
theorem i_Mod_act_66 : zins 135 66 = some (.iconst (-1)) := by decide +kernel
theorem i_Mod_act_67 : zins 135 67 = some (.iastore) := by decide +kernel
theorem i_Mod_act_68 : zins 135 68 = some (.iload_n 1) := by decide +kernel
theorem i_Mod_act_69 : zins 135 69 = some (.iconst 1) := by decide +kernel
theorem i_Mod_act_70 : zins 135 70 = some (.if_icmp .eq 9) := by decide +kernel
theorem i_Mod_act_73 : zins 135 73 = some (.iload_n 1) := by decide +kernel
theorem i_Mod_act_74 : zins 135 74 = some (.bipush 8) := by decide +kernel
theorem i_Mod_act_76 : zins 135 76 = some (.if_icmp .ne 17) := by decide +kernel
theorem i_Mod_act_79 : zins 135 79 = some (.aload_n 0) := by decide +kernel
theorem i_Mod_act_80 : zins 135 80 = some (.iload_n 3) := by decide +kernel
theorem i_Mod_act_81 : zins 135 81 = some (.iconst 0) := by decide +kernel
theorem i_Mod_act_82 : zins 135 82 = some (.iload_n 2) := by decide +kernel
theorem i_Mod_act_83 : zins 135 83 = some (.invokevirtual 217) := by decide +kernel
theorem i_Mod_act_86 : zins 135 86 = some (.aload_n 0) := by decide +kernel
theorem i_Mod_act_87 : zins 135 87 = some (.iload_n 3) := by decide +kernel
theorem i_Mod_act_88 : zins 135 88 = some (.iconst 1) := by decide +kernel
theorem i_Mod_act_89 : zins 135 89 = some (.iload_n 2) := by decide +kernel
theorem i_Mod_act_90 : zins 135 90 = some (.invokevirtual 217) := by decide +kernel
theorem i_Mod_act_93 : zins 135 93 = some (.iload_n 1) := by decide +kernel
theorem i_Mod_act_94 : zins 135 94 = some (.bipush 9) := by decide +kernel
theorem i_Mod_act_96 : zins 135 96 = some (.if_icmp .ne 10) := by decide +kernel
theorem i_Mod_act_99 : zins 135 99 = some (.aload_n 0) := by decide +kernel
theorem i_Mod_act_100 : zins 135 100 = some (.bipush 100) := by decide +kernel
theorem i_Mod_act_102 : zins 135 102 = some (.iload_n 3) := by decide +kernel
theorem i_Mod_act_103 : zins 135 103 = some (.invokevirtual 182) := by decide +kernel
theorem i_Mod_act_106 : zins 135 106 = some (.return_) := by decide +kernel
theorem e1_Mod_act (X : zX) (d : Nat) (g : zH) (ms : zMS) (cnt : Nat) (hT : mTV ms 0 cnt) (sg : Nat) (hs : ms.2 2 0 = nI sg) (hsl : sg ≤ 200) (p : Nat) (hp : p ≤ 99) (e : patF (mV ms) (mseg ms 80 73 68 1) = nI p) : zR X (d + 4) 135 0 (zent 4 [.ref 129, .int 1]) [] (mset g ms) (none, mset g (actF ms 1)) := by
  have hb1 := mseg_b hs hsl 80 73 68 1 (by omega)
  have hb2 := mseg_b hs hsl 80 86 49 1 (by omega)
  have e2 : actF ms 1 = mnam (mB ms (upd (ms.2 19) p (bedF (mV ms) (mseg ms 80 86 49 1))) (upd (ms.2 18) p 1)) (takeQ (takeQ (mnq ms) (mV ms (nI (mseg ms 80 73 68 1)) 2 1 1) p 0) (mV ms (nI (mseg ms 80 73 68 1)) 2 1 2) p 1) := by
    unfold actF
    dsimp only
    rw [e, nI_clamp (by omega)]
    rfl
  refine zr_aload_n i_Mod_act_0 rfl ?_
  refine zr_bipush i_Mod_act_1 (v := 80) (by decide) ?_
  refine zr_bipush i_Mod_act_3 (v := 73) (by decide) ?_
  refine zr_bipush i_Mod_act_5 (v := 68) (by decide) ?_
  refine zn_iconst 1 i_Mod_act_7 (by decide) ?_
  refine zr_cv4 i_Mod_act_8 rfl (by decide) rfl (Nat.le_of_ble_eq_true rfl) (Nat.le_of_ble_eq_true rfl) (e_Mod_segment X _ g ms sg _ _ _ _ hs hsl (by omega) (by omega)) ?_
  refine zr_istore_n i_Mod_act_11 rfl ?_
  refine zr_aload_n i_Mod_act_12 rfl ?_
  refine zr_iload_n i_Mod_act_13 rfl ?_
  refine zr_cv1 i_Mod_act_14 rfl (by decide) rfl (Nat.le_of_ble_eq_true rfl) (Nat.le_of_ble_eq_true rfl) (e_Mod_patientIn X _ g ms cnt hT _ (by omega)) ?_
  refine zr_top (y := nI p) e ?_
  refine zr_istore_n i_Mod_act_17 rfl ?_
  refine zr_iload_n i_Mod_act_18 rfl ?_
  refine zr_iconst i_Mod_act_19 (v := 1) (by decide) ?_
  refine zr_icmp_eq 28 i_Mod_act_20 (by decide) (fun _ => ?_) (fun q => absurd q (by decide))
  refine zr_aload_n i_Mod_act_28 rfl ?_
  refine zr_getf i_Mod_act_29 rfl rfl rfl ?_
  refine zr_iload_n i_Mod_act_32 rfl ?_
  refine zr_aload_n i_Mod_act_33 rfl ?_
  refine zr_aload_n i_Mod_act_34 rfl ?_
  refine zr_bipush i_Mod_act_35 (v := 80) (by decide) ?_
  refine zr_bipush i_Mod_act_37 (v := 86) (by decide) ?_
  refine zr_bipush i_Mod_act_39 (v := 49) (by decide) ?_
  refine zn_iconst 1 i_Mod_act_41 (by decide) ?_
  refine zr_cv4 i_Mod_act_42 rfl (by decide) rfl (Nat.le_of_ble_eq_true rfl) (Nat.le_of_ble_eq_true rfl) (e_Mod_segment X _ g ms sg _ _ _ _ hs hsl (by omega) (by omega)) ?_
  refine zr_cv1 i_Mod_act_45 rfl (by decide) rfl (Nat.le_of_ble_eq_true rfl) (Nat.le_of_ble_eq_true rfl) (e_Mod_bedIn X _ g ms cnt hT _ (by omega)) ?_
  refine mn_iastore 19 100 i_Mod_act_48 (fun _ => rfl) (by decide) (by omega) (by decide) ?_
  refine zr_aload_n i_Mod_act_49 rfl ?_
  refine zr_getf i_Mod_act_50 rfl rfl rfl ?_
  refine zr_iload_n i_Mod_act_53 rfl ?_
  refine zr_iconst i_Mod_act_54 (v := 1) (by decide) ?_
  refine mn_bastore 18 100 i_Mod_act_55 (fun _ => rfl) (by decide) (by omega) (by decide) ?_
  refine zr_iload_n i_Mod_act_56 rfl ?_
  refine zr_iconst i_Mod_act_57 (v := 3) (by decide) ?_
  refine zr_icmp_ne 68 i_Mod_act_58 (by decide) (fun _ => ?_) (fun q => absurd q (by decide))
  refine zr_iload_n i_Mod_act_68 rfl ?_
  refine zr_iconst i_Mod_act_69 (v := 1) (by decide) ?_
  refine zr_icmp_eq 79 i_Mod_act_70 (by decide) (fun _ => ?_) (fun q => absurd q (by decide))
  refine zr_aload_n i_Mod_act_79 rfl ?_
  refine zr_iload_n i_Mod_act_80 rfl ?_
  refine zn_iconst 0 i_Mod_act_81 (by decide) ?_
  refine zr_iload_n i_Mod_act_82 rfl ?_
  refine zr_cv30 i_Mod_act_83 rfl (by decide) rfl (Nat.le_of_ble_eq_true rfl) (Nat.le_of_ble_eq_true rfl) (e_Mod_takeName X _ g (mB ms (upd (ms.2 19) p (bedF (mV ms) (mseg ms 80 86 49 1))) (upd (ms.2 18) p 1)) cnt hT p 0 _ hp (by decide) (by omega)) ?_
  refine zr_aload_n i_Mod_act_86 rfl ?_
  refine zr_iload_n i_Mod_act_87 rfl ?_
  refine zn_iconst 1 i_Mod_act_88 (by decide) ?_
  refine zr_iload_n i_Mod_act_89 rfl ?_
  refine zr_cv30 i_Mod_act_90 rfl (by decide) rfl (Nat.le_of_ble_eq_true rfl) (Nat.le_of_ble_eq_true rfl) (e_Mod_takeName X _ g (mnam (mB ms (upd (ms.2 19) p (bedF (mV ms) (mseg ms 80 86 49 1))) (upd (ms.2 18) p 1)) (takeQ (mnq (mB ms (upd (ms.2 19) p (bedF (mV ms) (mseg ms 80 86 49 1))) (upd (ms.2 18) p 1))) (mV (mB ms (upd (ms.2 19) p (bedF (mV ms) (mseg ms 80 86 49 1))) (upd (ms.2 18) p 1)) (nI (mseg ms 80 73 68 1)) 2 1 (nI (0 + 1))) p 0)) cnt hT p 1 _ hp (by decide) (by omega)) ?_
  refine zr_iload_n i_Mod_act_93 rfl ?_
  refine zr_bipush i_Mod_act_94 (v := 9) (by decide) ?_
  refine zr_icmp_ne 106 i_Mod_act_96 (by decide) (fun _ => ?_) (fun q => absurd q (by decide))
  exact zR.retE i_Mod_act_106 rfl (by rw [e2, mnam_nam]; rfl)
theorem e2_Mod_act (X : zX) (d : Nat) (g : zH) (ms : zMS) (cnt : Nat) (hT : mTV ms 0 cnt) (sg : Nat) (hs : ms.2 2 0 = nI sg) (hsl : sg ≤ 200) (p : Nat) (hp : p ≤ 99) (e : patF (mV ms) (mseg ms 80 73 68 1) = nI p) : zR X (d + 4) 135 0 (zent 4 [.ref 129, .int 2]) [] (mset g ms) (none, mset g (actF ms 2)) := by
  have hb1 := mseg_b hs hsl 80 73 68 1 (by omega)
  have hb2 := mseg_b hs hsl 80 86 49 1 (by omega)
  have e2 : actF ms 2 = (mB ms (upd (ms.2 19) p (bedF (mV ms) (mseg ms 80 86 49 1))) (upd (ms.2 18) p 1)) := by
    unfold actF
    dsimp only
    rw [e, nI_clamp (by omega)]
    rfl
  refine zr_aload_n i_Mod_act_0 rfl ?_
  refine zr_bipush i_Mod_act_1 (v := 80) (by decide) ?_
  refine zr_bipush i_Mod_act_3 (v := 73) (by decide) ?_
  refine zr_bipush i_Mod_act_5 (v := 68) (by decide) ?_
  refine zn_iconst 1 i_Mod_act_7 (by decide) ?_
  refine zr_cv4 i_Mod_act_8 rfl (by decide) rfl (Nat.le_of_ble_eq_true rfl) (Nat.le_of_ble_eq_true rfl) (e_Mod_segment X _ g ms sg _ _ _ _ hs hsl (by omega) (by omega)) ?_
  refine zr_istore_n i_Mod_act_11 rfl ?_
  refine zr_aload_n i_Mod_act_12 rfl ?_
  refine zr_iload_n i_Mod_act_13 rfl ?_
  refine zr_cv1 i_Mod_act_14 rfl (by decide) rfl (Nat.le_of_ble_eq_true rfl) (Nat.le_of_ble_eq_true rfl) (e_Mod_patientIn X _ g ms cnt hT _ (by omega)) ?_
  refine zr_top (y := nI p) e ?_
  refine zr_istore_n i_Mod_act_17 rfl ?_
  refine zr_iload_n i_Mod_act_18 rfl ?_
  refine zr_iconst i_Mod_act_19 (v := 1) (by decide) ?_
  refine zr_icmp_eq 28 i_Mod_act_20 (by decide) (fun q => absurd q (by decide)) (fun _ => ?_)
  refine zr_iload_n i_Mod_act_23 rfl ?_
  refine zr_iconst i_Mod_act_24 (v := 2) (by decide) ?_
  refine zr_icmp_ne 56 i_Mod_act_25 (by decide) (fun q => absurd q (by decide)) (fun _ => ?_)
  refine zr_aload_n i_Mod_act_28 rfl ?_
  refine zr_getf i_Mod_act_29 rfl rfl rfl ?_
  refine zr_iload_n i_Mod_act_32 rfl ?_
  refine zr_aload_n i_Mod_act_33 rfl ?_
  refine zr_aload_n i_Mod_act_34 rfl ?_
  refine zr_bipush i_Mod_act_35 (v := 80) (by decide) ?_
  refine zr_bipush i_Mod_act_37 (v := 86) (by decide) ?_
  refine zr_bipush i_Mod_act_39 (v := 49) (by decide) ?_
  refine zn_iconst 1 i_Mod_act_41 (by decide) ?_
  refine zr_cv4 i_Mod_act_42 rfl (by decide) rfl (Nat.le_of_ble_eq_true rfl) (Nat.le_of_ble_eq_true rfl) (e_Mod_segment X _ g ms sg _ _ _ _ hs hsl (by omega) (by omega)) ?_
  refine zr_cv1 i_Mod_act_45 rfl (by decide) rfl (Nat.le_of_ble_eq_true rfl) (Nat.le_of_ble_eq_true rfl) (e_Mod_bedIn X _ g ms cnt hT _ (by omega)) ?_
  refine mn_iastore 19 100 i_Mod_act_48 (fun _ => rfl) (by decide) (by omega) (by decide) ?_
  refine zr_aload_n i_Mod_act_49 rfl ?_
  refine zr_getf i_Mod_act_50 rfl rfl rfl ?_
  refine zr_iload_n i_Mod_act_53 rfl ?_
  refine zr_iconst i_Mod_act_54 (v := 1) (by decide) ?_
  refine mn_bastore 18 100 i_Mod_act_55 (fun _ => rfl) (by decide) (by omega) (by decide) ?_
  refine zr_iload_n i_Mod_act_56 rfl ?_
  refine zr_iconst i_Mod_act_57 (v := 3) (by decide) ?_
  refine zr_icmp_ne 68 i_Mod_act_58 (by decide) (fun _ => ?_) (fun q => absurd q (by decide))
  refine zr_iload_n i_Mod_act_68 rfl ?_
  refine zr_iconst i_Mod_act_69 (v := 1) (by decide) ?_
  refine zr_icmp_eq 79 i_Mod_act_70 (by decide) (fun q => absurd q (by decide)) (fun _ => ?_)
  refine zr_iload_n i_Mod_act_73 rfl ?_
  refine zr_bipush i_Mod_act_74 (v := 8) (by decide) ?_
  refine zr_icmp_ne 93 i_Mod_act_76 (by decide) (fun _ => ?_) (fun q => absurd q (by decide))
  refine zr_iload_n i_Mod_act_93 rfl ?_
  refine zr_bipush i_Mod_act_94 (v := 9) (by decide) ?_
  refine zr_icmp_ne 106 i_Mod_act_96 (by decide) (fun _ => ?_) (fun q => absurd q (by decide))
  exact zR.retE i_Mod_act_106 rfl (by rw [e2] <;> rfl)
theorem e3_Mod_act (X : zX) (d : Nat) (g : zH) (ms : zMS) (cnt : Nat) (hT : mTV ms 0 cnt) (sg : Nat) (hs : ms.2 2 0 = nI sg) (hsl : sg ≤ 200) (p : Nat) (hp : p ≤ 99) (e : patF (mV ms) (mseg ms 80 73 68 1) = nI p) : zR X (d + 4) 135 0 (zent 4 [.ref 129, .int 3]) [] (mset g ms) (none, mset g (actF ms 3)) := by
  have hb1 := mseg_b hs hsl 80 73 68 1 (by omega)
  have hb2 := mseg_b hs hsl 80 86 49 1 (by omega)
  have e2 : actF ms 3 = (ms.1, va_up ms.2 19 (upd (ms.2 19) p (-1))) := by
    unfold actF
    dsimp only
    rw [e, nI_clamp (by omega)]
    rfl
  refine zr_aload_n i_Mod_act_0 rfl ?_
  refine zr_bipush i_Mod_act_1 (v := 80) (by decide) ?_
  refine zr_bipush i_Mod_act_3 (v := 73) (by decide) ?_
  refine zr_bipush i_Mod_act_5 (v := 68) (by decide) ?_
  refine zn_iconst 1 i_Mod_act_7 (by decide) ?_
  refine zr_cv4 i_Mod_act_8 rfl (by decide) rfl (Nat.le_of_ble_eq_true rfl) (Nat.le_of_ble_eq_true rfl) (e_Mod_segment X _ g ms sg _ _ _ _ hs hsl (by omega) (by omega)) ?_
  refine zr_istore_n i_Mod_act_11 rfl ?_
  refine zr_aload_n i_Mod_act_12 rfl ?_
  refine zr_iload_n i_Mod_act_13 rfl ?_
  refine zr_cv1 i_Mod_act_14 rfl (by decide) rfl (Nat.le_of_ble_eq_true rfl) (Nat.le_of_ble_eq_true rfl) (e_Mod_patientIn X _ g ms cnt hT _ (by omega)) ?_
  refine zr_top (y := nI p) e ?_
  refine zr_istore_n i_Mod_act_17 rfl ?_
  refine zr_iload_n i_Mod_act_18 rfl ?_
  refine zr_iconst i_Mod_act_19 (v := 1) (by decide) ?_
  refine zr_icmp_eq 28 i_Mod_act_20 (by decide) (fun q => absurd q (by decide)) (fun _ => ?_)
  refine zr_iload_n i_Mod_act_23 rfl ?_
  refine zr_iconst i_Mod_act_24 (v := 2) (by decide) ?_
  refine zr_icmp_ne 56 i_Mod_act_25 (by decide) (fun _ => ?_) (fun q => absurd q (by decide))
  refine zr_iload_n i_Mod_act_56 rfl ?_
  refine zr_iconst i_Mod_act_57 (v := 3) (by decide) ?_
  refine zr_icmp_ne 68 i_Mod_act_58 (by decide) (fun q => absurd q (by decide)) (fun _ => ?_)
  refine zr_aload_n i_Mod_act_61 rfl ?_
  refine zr_getf i_Mod_act_62 rfl rfl rfl ?_
  refine zr_iload_n i_Mod_act_65 rfl ?_
  refine zr_iconst i_Mod_act_66 (v := (-1)) (by decide) ?_
  refine mn_iastore 19 100 i_Mod_act_67 (fun _ => rfl) (by decide) (by omega) (by decide) ?_
  refine zr_iload_n i_Mod_act_68 rfl ?_
  refine zr_iconst i_Mod_act_69 (v := 1) (by decide) ?_
  refine zr_icmp_eq 79 i_Mod_act_70 (by decide) (fun q => absurd q (by decide)) (fun _ => ?_)
  refine zr_iload_n i_Mod_act_73 rfl ?_
  refine zr_bipush i_Mod_act_74 (v := 8) (by decide) ?_
  refine zr_icmp_ne 93 i_Mod_act_76 (by decide) (fun _ => ?_) (fun q => absurd q (by decide))
  refine zr_iload_n i_Mod_act_93 rfl ?_
  refine zr_bipush i_Mod_act_94 (v := 9) (by decide) ?_
  refine zr_icmp_ne 106 i_Mod_act_96 (by decide) (fun _ => ?_) (fun q => absurd q (by decide))
  exact zR.retE i_Mod_act_106 rfl (by rw [e2] <;> rfl)
theorem e8_Mod_act (X : zX) (d : Nat) (g : zH) (ms : zMS) (cnt : Nat) (hT : mTV ms 0 cnt) (sg : Nat) (hs : ms.2 2 0 = nI sg) (hsl : sg ≤ 200) (p : Nat) (hp : p ≤ 99) (e : patF (mV ms) (mseg ms 80 73 68 1) = nI p) : zR X (d + 4) 135 0 (zent 4 [.ref 129, .int 8]) [] (mset g ms) (none, mset g (actF ms 8)) := by
  have hb1 := mseg_b hs hsl 80 73 68 1 (by omega)
  have hb2 := mseg_b hs hsl 80 86 49 1 (by omega)
  have e2 : actF ms 8 = mnam ms (takeQ (takeQ (mnq ms) (mV ms (nI (mseg ms 80 73 68 1)) 2 1 1) p 0) (mV ms (nI (mseg ms 80 73 68 1)) 2 1 2) p 1) := by
    unfold actF
    dsimp only
    rw [e, nI_clamp (by omega)]
    rfl
  refine zr_aload_n i_Mod_act_0 rfl ?_
  refine zr_bipush i_Mod_act_1 (v := 80) (by decide) ?_
  refine zr_bipush i_Mod_act_3 (v := 73) (by decide) ?_
  refine zr_bipush i_Mod_act_5 (v := 68) (by decide) ?_
  refine zn_iconst 1 i_Mod_act_7 (by decide) ?_
  refine zr_cv4 i_Mod_act_8 rfl (by decide) rfl (Nat.le_of_ble_eq_true rfl) (Nat.le_of_ble_eq_true rfl) (e_Mod_segment X _ g ms sg _ _ _ _ hs hsl (by omega) (by omega)) ?_
  refine zr_istore_n i_Mod_act_11 rfl ?_
  refine zr_aload_n i_Mod_act_12 rfl ?_
  refine zr_iload_n i_Mod_act_13 rfl ?_
  refine zr_cv1 i_Mod_act_14 rfl (by decide) rfl (Nat.le_of_ble_eq_true rfl) (Nat.le_of_ble_eq_true rfl) (e_Mod_patientIn X _ g ms cnt hT _ (by omega)) ?_
  refine zr_top (y := nI p) e ?_
  refine zr_istore_n i_Mod_act_17 rfl ?_
  refine zr_iload_n i_Mod_act_18 rfl ?_
  refine zr_iconst i_Mod_act_19 (v := 1) (by decide) ?_
  refine zr_icmp_eq 28 i_Mod_act_20 (by decide) (fun q => absurd q (by decide)) (fun _ => ?_)
  refine zr_iload_n i_Mod_act_23 rfl ?_
  refine zr_iconst i_Mod_act_24 (v := 2) (by decide) ?_
  refine zr_icmp_ne 56 i_Mod_act_25 (by decide) (fun _ => ?_) (fun q => absurd q (by decide))
  refine zr_iload_n i_Mod_act_56 rfl ?_
  refine zr_iconst i_Mod_act_57 (v := 3) (by decide) ?_
  refine zr_icmp_ne 68 i_Mod_act_58 (by decide) (fun _ => ?_) (fun q => absurd q (by decide))
  refine zr_iload_n i_Mod_act_68 rfl ?_
  refine zr_iconst i_Mod_act_69 (v := 1) (by decide) ?_
  refine zr_icmp_eq 79 i_Mod_act_70 (by decide) (fun q => absurd q (by decide)) (fun _ => ?_)
  refine zr_iload_n i_Mod_act_73 rfl ?_
  refine zr_bipush i_Mod_act_74 (v := 8) (by decide) ?_
  refine zr_icmp_ne 93 i_Mod_act_76 (by decide) (fun q => absurd q (by decide)) (fun _ => ?_)
  refine zr_aload_n i_Mod_act_79 rfl ?_
  refine zr_iload_n i_Mod_act_80 rfl ?_
  refine zn_iconst 0 i_Mod_act_81 (by decide) ?_
  refine zr_iload_n i_Mod_act_82 rfl ?_
  refine zr_cv30 i_Mod_act_83 rfl (by decide) rfl (Nat.le_of_ble_eq_true rfl) (Nat.le_of_ble_eq_true rfl) (e_Mod_takeName X _ g ms cnt hT p 0 _ hp (by decide) (by omega)) ?_
  refine zr_aload_n i_Mod_act_86 rfl ?_
  refine zr_iload_n i_Mod_act_87 rfl ?_
  refine zn_iconst 1 i_Mod_act_88 (by decide) ?_
  refine zr_iload_n i_Mod_act_89 rfl ?_
  refine zr_cv30 i_Mod_act_90 rfl (by decide) rfl (Nat.le_of_ble_eq_true rfl) (Nat.le_of_ble_eq_true rfl) (e_Mod_takeName X _ g (mnam ms (takeQ (mnq ms) (mV ms (nI (mseg ms 80 73 68 1)) 2 1 (nI (0 + 1))) p 0)) cnt hT p 1 _ hp (by decide) (by omega)) ?_
  refine zr_iload_n i_Mod_act_93 rfl ?_
  refine zr_bipush i_Mod_act_94 (v := 9) (by decide) ?_
  refine zr_icmp_ne 106 i_Mod_act_96 (by decide) (fun _ => ?_) (fun q => absurd q (by decide))
  exact zR.retE i_Mod_act_106 rfl (by rw [e2, mnam_nam]; rfl)
theorem e9_Mod_act (X : zX) (d : Nat) (g : zH) (ms : zMS) (cnt : Nat) (hT : mTV ms 0 cnt) (sg : Nat) (hs : ms.2 2 0 = nI sg) (hsl : sg ≤ 200) (p : Nat) (hp : p ≤ 99) (e : patF (mV ms) (mseg ms 80 73 68 1) = nI p) : zR X (d + 4) 135 0 (zent 4 [.ref 129, .int 9]) [] (mset g ms) (none, mset g (actF ms 9)) := by
  have hb1 := mseg_b hs hsl 80 73 68 1 (by omega)
  have hb2 := mseg_b hs hsl 80 86 49 1 (by omega)
  have e2 : actF ms 9 = mres ms (copyQ (mq ms) 100 p) := by
    unfold actF
    dsimp only
    rw [e, nI_clamp (by omega)]
    rfl
  refine zr_aload_n i_Mod_act_0 rfl ?_
  refine zr_bipush i_Mod_act_1 (v := 80) (by decide) ?_
  refine zr_bipush i_Mod_act_3 (v := 73) (by decide) ?_
  refine zr_bipush i_Mod_act_5 (v := 68) (by decide) ?_
  refine zn_iconst 1 i_Mod_act_7 (by decide) ?_
  refine zr_cv4 i_Mod_act_8 rfl (by decide) rfl (Nat.le_of_ble_eq_true rfl) (Nat.le_of_ble_eq_true rfl) (e_Mod_segment X _ g ms sg _ _ _ _ hs hsl (by omega) (by omega)) ?_
  refine zr_istore_n i_Mod_act_11 rfl ?_
  refine zr_aload_n i_Mod_act_12 rfl ?_
  refine zr_iload_n i_Mod_act_13 rfl ?_
  refine zr_cv1 i_Mod_act_14 rfl (by decide) rfl (Nat.le_of_ble_eq_true rfl) (Nat.le_of_ble_eq_true rfl) (e_Mod_patientIn X _ g ms cnt hT _ (by omega)) ?_
  refine zr_top (y := nI p) e ?_
  refine zr_istore_n i_Mod_act_17 rfl ?_
  refine zr_iload_n i_Mod_act_18 rfl ?_
  refine zr_iconst i_Mod_act_19 (v := 1) (by decide) ?_
  refine zr_icmp_eq 28 i_Mod_act_20 (by decide) (fun q => absurd q (by decide)) (fun _ => ?_)
  refine zr_iload_n i_Mod_act_23 rfl ?_
  refine zr_iconst i_Mod_act_24 (v := 2) (by decide) ?_
  refine zr_icmp_ne 56 i_Mod_act_25 (by decide) (fun _ => ?_) (fun q => absurd q (by decide))
  refine zr_iload_n i_Mod_act_56 rfl ?_
  refine zr_iconst i_Mod_act_57 (v := 3) (by decide) ?_
  refine zr_icmp_ne 68 i_Mod_act_58 (by decide) (fun _ => ?_) (fun q => absurd q (by decide))
  refine zr_iload_n i_Mod_act_68 rfl ?_
  refine zr_iconst i_Mod_act_69 (v := 1) (by decide) ?_
  refine zr_icmp_eq 79 i_Mod_act_70 (by decide) (fun q => absurd q (by decide)) (fun _ => ?_)
  refine zr_iload_n i_Mod_act_73 rfl ?_
  refine zr_bipush i_Mod_act_74 (v := 8) (by decide) ?_
  refine zr_icmp_ne 93 i_Mod_act_76 (by decide) (fun _ => ?_) (fun q => absurd q (by decide))
  refine zr_iload_n i_Mod_act_93 rfl ?_
  refine zr_bipush i_Mod_act_94 (v := 9) (by decide) ?_
  refine zr_icmp_ne 106 i_Mod_act_96 (by decide) (fun q => absurd q (by decide)) (fun _ => ?_)
  refine zr_aload_n i_Mod_act_99 rfl ?_
  refine zr_bipush i_Mod_act_100 (v := 100) (by decide) ?_
  refine zr_iload_n i_Mod_act_102 rfl ?_
  refine zr_cv20 i_Mod_act_103 rfl (by decide) rfl (Nat.le_of_ble_eq_true rfl) (Nat.le_of_ble_eq_true rfl) (e_Mod_copyResults X _ g ms 100 p (by decide) (by omega) (by omega)) ?_
  exact zR.retE i_Mod_act_106 rfl (by rw [e2] <;> rfl)
end
section
/-! THE REFERENCE: receipts, keeping -/
section KR3
variable {X : zX} {d j pc : Nat} {L : zL} {r : List Value} {h : zH} {u : Option Value × zH}
theorem zn_irem {a b : Nat} (hi : zins j pc = some .irem) (ha : a < 2 ^ 31) (hb : 0 < b) (hb2 : b < 2 ^ 31) (k : zR X d j (pc + 1) L (.int (nI (a % b)) :: r) h u) : zR X d j pc L (.int (nI b) :: .int (nI a) :: r) h u :=
  zr_irem hi (nI_ne0 hb hb2) (by rw [pk_rem ha hb hb2]; exact k)
theorem zn_idiv {a b : Nat} (hi : zins j pc = some .idiv) (ha : a < 2 ^ 31) (hb : 0 < b) (hb2 : b < 2 ^ 31) (k : zR X d j (pc + 1) L (.int (nI (a / b)) :: r) h u) : zR X d j pc L (.int (nI b) :: .int (nI a) :: r) h u :=
  zr_idiv hi (nI_ne0 hb hb2) (by rw [pk_div ha hb hb2]; exact k)
theorem zn_i2c {a : Nat} (hi : zins j pc = some .i2c) (ha : a < 65536) (k : zR X d j (pc + 1) L (.int (nI a) :: r) h u) : zR X d j pc L (.int (nI a) :: r) h u :=
  zr_i2c hi (by rw [pk_char, pk_tn (by omega), Nat.mod_eq_of_lt ha]; exact k)
end KR3
/-- a character -/
def zch (c : Int32) : Prop := vp_nar .char c = c
theorem zch_of {c : Int32} (h : narrow .char (.int c) = .int c) : zch c := by unfold zch vp_nar; rw [h]
theorem zch_n {q : Nat} (h : q < 65536) : zch (nI q) := zch_of (zchN h)
/-- a row of which the first places are a list -/
def lrow (f : Nat → Int32) (l : List Int32) (j : Nat) : Int32 := (l[j]?).getD (f j)
theorem lrow_nil (f : Nat → Int32) : lrow f [] = f := rfl
theorem lrow_add (f : Nat → Int32) (l : List Int32) (c : Int32) : upd (lrow f l) l.length c = lrow f (l ++ [c]) := by
  funext j
  unfold lrow
  by_cases h : j = l.length
  · subst h
    rw [pk_us]
    simp
  · rw [pk_un h, List.getElem?_append]
    split
    · rfl
    · rw [List.getElem?_eq_none (by omega), List.getElem?_eq_none (by simp; omega)]
theorem lrow_at {f : Nat → Int32} {l : List Int32} {j : Nat} (h : j < l.length) : lrow f l j = l.getD j 0 := by
  unfold lrow
  rw [List.getD_eq_getElem?_getD, List.getElem?_eq_getElem h]; rfl
def mrc (ms : zMS) (l : List Int32) : zMS := (va_up ms.1 5 (nI l.length), va_up ms.2 15 (lrow (ms.2 15) l))
theorem mV_rc (ms : zMS) (l : List Int32) : mV (mrc ms l) = mV ms := rfl
theorem i_Mod_say_0 : zins 140 0 = some (.aload_n 0) := by decide +kernel
theorem i_Mod_say_1 : zins 140 1 = some (.getfield 53) := by decide +kernel
theorem i_Mod_say_4 : zins 140 4 = some (.aload_n 0) := by decide +kernel
theorem i_Mod_say_5 : zins 140 5 = some (.getfield 224) := by decide +kernel
theorem i_Mod_say_8 : zins 140 8 = some (.iload_n 1) := by decide +kernel
theorem i_Mod_say_9 : zins 140 9 = some (.castore) := by decide +kernel
theorem i_Mod_say_10 : zins 140 10 = some (.aload_n 0) := by decide +kernel
theorem i_Mod_say_11 : zins 140 11 = some (.dup) := by decide +kernel
theorem i_Mod_say_12 : zins 140 12 = some (.getfield 224) := by decide +kernel
theorem i_Mod_say_15 : zins 140 15 = some (.iconst 1) := by decide +kernel
theorem i_Mod_say_16 : zins 140 16 = some (.iadd) := by decide +kernel
theorem i_Mod_say_17 : zins 140 17 = some (.putfield 224) := by decide +kernel
theorem i_Mod_say_20 : zins 140 20 = some (.return_) := by decide +kernel
theorem e_Mod_say (X : zX) (d : Nat) (g : zH) (ms : zMS) (l : List Int32) (hl : l.length < 64) (c : Int32) (hc : zch c) : zR X d 140 0 (zent 2 [.ref 129, .int c]) [] (mset g (mrc ms l)) (none, mset g (mrc ms (l ++ [c]))) := by
  have e : mrc ms (l ++ [c]) = (va_up (va_up ms.1 5 (nI l.length)) 5 (nI (l.length + 1)), va_up (va_up ms.2 15 (lrow (ms.2 15) l)) 15 (upd (lrow (ms.2 15) l) l.length (vp_nar .char c))) := by
    rw [up_same, up_same, hc, lrow_add, mrc, List.length_append]
    rfl
  refine zr_aload_n i_Mod_say_0 rfl ?_
  refine zr_getf i_Mod_say_1 rfl rfl rfl ?_
  refine zr_aload_n i_Mod_say_4 rfl ?_
  refine zr_getf i_Mod_say_5 rfl rfl rfl ?_
  refine zr_top (y := nI l.length) rfl ?_
  refine zr_iload_n i_Mod_say_8 rfl ?_
  refine mn_castore 15 64 i_Mod_say_9 (fun _ => rfl) (by decide) (by omega) (by decide) ?_
  refine zr_aload_n i_Mod_say_10 rfl ?_
  refine zr_dup i_Mod_say_11 rfl ?_
  refine zr_getf i_Mod_say_12 rfl rfl rfl ?_
  refine zr_top (y := nI l.length) rfl ?_
  refine zn_iconst 1 i_Mod_say_15 (by decide) ?_
  refine zn_iadd i_Mod_say_16 ?_
  refine mr_putf (kk := 5) i_Mod_say_17 rfl rfl (Nat.le_of_ble_eq_true rfl) rfl rfl rfl ?_
  exact zR.retE i_Mod_say_20 rfl (by rw [e]; rfl)
theorem i_Mod_sayThree_0 : zins 139 0 = some (.aload_n 0) := by decide +kernel
theorem i_Mod_sayThree_1 : zins 139 1 = some (.iload_n 1) := by decide +kernel
theorem i_Mod_sayThree_2 : zins 139 2 = some (.invokevirtual 227) := by decide +kernel
theorem i_Mod_sayThree_5 : zins 139 5 = some (.aload_n 0) := by decide +kernel
theorem i_Mod_sayThree_6 : zins 139 6 = some (.iload_n 2) := by decide +kernel
theorem i_Mod_sayThree_7 : zins 139 7 = some (.invokevirtual 227) := by decide +kernel
theorem i_Mod_sayThree_10 : zins 139 10 = some (.aload_n 0) := by decide +kernel
theorem i_Mod_sayThree_11 : zins 139 11 = some (.iload_n 3) := by decide +kernel
theorem i_Mod_sayThree_12 : zins 139 12 = some (.invokevirtual 227) := by decide +kernel
theorem i_Mod_sayThree_15 : zins 139 15 = some (.return_) := by decide +kernel
theorem e_Mod_sayThree (X : zX) (d : Nat) (g : zH) (ms : zMS) (l : List Int32) (hl : l.length + 3 ≤ 64) (a b c : Int32) (ha : zch a) (hb : zch b) (hc : zch c) : zR X (d + 1) 139 0 (zent 4 [.ref 129, .int a, .int b, .int c]) [] (mset g (mrc ms l)) (none, mset g (mrc ms (l ++ [a, b, c]))) := by
  refine zr_aload_n i_Mod_sayThree_0 rfl ?_
  refine zr_iload_n i_Mod_sayThree_1 rfl ?_
  refine zr_cv10 i_Mod_sayThree_2 rfl (by decide) rfl (Nat.le_of_ble_eq_true rfl) (Nat.le_of_ble_eq_true rfl) (e_Mod_say X _ g ms l (by omega) a ha) ?_
  refine zr_aload_n i_Mod_sayThree_5 rfl ?_
  refine zr_iload_n i_Mod_sayThree_6 rfl ?_
  refine zr_cv10 i_Mod_sayThree_7 rfl (by decide) rfl (Nat.le_of_ble_eq_true rfl) (Nat.le_of_ble_eq_true rfl) (e_Mod_say X _ g ms (l ++ [a]) (by simp; omega) b hb) ?_
  refine zr_aload_n i_Mod_sayThree_10 rfl ?_
  refine zr_iload_n i_Mod_sayThree_11 rfl ?_
  refine zr_cv10 i_Mod_sayThree_12 rfl (by decide) rfl (Nat.le_of_ble_eq_true rfl) (Nat.le_of_ble_eq_true rfl) (e_Mod_say X _ g ms (l ++ [a] ++ [b]) (by simp; omega) c hc) ?_
  exact zR.retE i_Mod_sayThree_15 rfl (by simp)
theorem i_Mod_sayIdentity_0 : zins 141 0 = some (.aload_n 0) := by decide +kernel
theorem i_Mod_sayIdentity_1 : zins 141 1 = some (.iconst 0) := by decide +kernel
theorem i_Mod_sayIdentity_2 : zins 141 2 = some (.iconst 1) := by decide +kernel
theorem i_Mod_sayIdentity_3 : zins 141 3 = some (.iconst 2) := by decide +kernel
theorem i_Mod_sayIdentity_4 : zins 141 4 = some (.iconst 1) := by decide +kernel
theorem i_Mod_sayIdentity_5 : zins 141 5 = some (.iconst 1) := by decide +kernel
theorem i_Mod_sayIdentity_6 : zins 141 6 = some (.invokevirtual 153) := by decide +kernel
theorem i_Mod_sayIdentity_9 : zins 141 9 = some (.istore_n 1) := by decide +kernel
theorem i_Mod_sayIdentity_10 : zins 141 10 = some (.aload_n 0) := by decide +kernel
theorem i_Mod_sayIdentity_11 : zins 141 11 = some (.aload_n 0) := by decide +kernel
theorem i_Mod_sayIdentity_12 : zins 141 12 = some (.getfield 50) := by decide +kernel
theorem i_Mod_sayIdentity_15 : zins 141 15 = some (.iconst 0) := by decide +kernel
theorem i_Mod_sayIdentity_16 : zins 141 16 = some (.caload) := by decide +kernel
theorem i_Mod_sayIdentity_17 : zins 141 17 = some (.invokevirtual 227) := by decide +kernel
theorem i_Mod_sayIdentity_20 : zins 141 20 = some (.iconst 0) := by decide +kernel
theorem i_Mod_sayIdentity_21 : zins 141 21 = some (.istore_n 2) := by decide +kernel
theorem i_Mod_sayIdentity_22 : zins 141 22 = some (.iload_n 2) := by decide +kernel
theorem i_Mod_sayIdentity_23 : zins 141 23 = some (.aload_n 0) := by decide +kernel
theorem i_Mod_sayIdentity_24 : zins 141 24 = some (.iload_n 1) := by decide +kernel
theorem i_Mod_sayIdentity_25 : zins 141 25 = some (.invokevirtual 145) := by decide +kernel
theorem i_Mod_sayIdentity_28 : zins 141 28 = some (.if_icmp .ge 19) := by decide +kernel
theorem i_Mod_sayIdentity_31 : zins 141 31 = some (.aload_n 0) := by decide +kernel
theorem i_Mod_sayIdentity_32 : zins 141 32 = some (.aload_n 0) := by decide +kernel
theorem i_Mod_sayIdentity_33 : zins 141 33 = some (.iload_n 1) := by decide +kernel
theorem i_Mod_sayIdentity_34 : zins 141 34 = some (.iload_n 2) := by decide +kernel
theorem i_Mod_sayIdentity_35 : zins 141 35 = some (.invokevirtual 149) := by decide +kernel
theorem i_Mod_sayIdentity_38 : zins 141 38 = some (.invokevirtual 227) := by decide +kernel
theorem i_Mod_sayIdentity_41 : zins 141 41 = some (.iinc 2 1) := by decide +kernel
theorem i_Mod_sayIdentity_44 : zins 141 44 = some (.goto (-22)) := by decide +kernel
theorem i_Mod_sayIdentity_47 : zins 141 47 = some (.aload_n 0) := by decide +kernel
theorem i_Mod_sayIdentity_48 : zins 141 48 = some (.aload_n 0) := by decide +kernel
theorem i_Mod_sayIdentity_49 : zins 141 49 = some (.getfield 50) := by decide +kernel
theorem i_Mod_sayIdentity_52 : zins 141 52 = some (.iconst 0) := by decide +kernel
theorem i_Mod_sayIdentity_53 : zins 141 53 = some (.caload) := by decide +kernel
theorem i_Mod_sayIdentity_54 : zins 141 54 = some (.invokevirtual 227) := by decide +kernel
theorem i_Mod_sayIdentity_57 : zins 141 57 = some (.return_) := by decide +kernel
theorem l_Mod_sayIdentity (X : zX) (d : Nat) (g : zH) (ms : zMS) (cnt : Nat) (hT : mTV ms 0 cnt) (l : List Int32) (hl : l.length + 2 + tl (mV ms 1 2 1 1) ≤ 64) (hS : ∀ k, k < 5 → zch (ms.2 14 k)) (hC : ∀ i, i < tl (mV ms 1 2 1 1) → zch (tc (mV ms 1 2 1 1) i)) : ∀ (k i : Nat), i + k = tl (mV ms 1 2 1 1) → zR X (d + 2) 141 22 [some (.ref 129), some (.int (tI (mfind ms 0 1 2 1 1))), some (.int (nI i))] [] (mset g (mrc ms ((l ++ [ms.2 14 0]) ++ ((mV ms 1 2 1 1).getD []).take i))) (none, mset g (mrc ms (l ++ [ms.2 14 0] ++ ((mV ms 1 2 1 1).getD []) ++ [ms.2 14 0]))) := by
  intro k
  induction k with
  | zero =>
    intro i hik
    refine zr_iload_n i_Mod_sayIdentity_22 rfl ?_
    refine zr_aload_n i_Mod_sayIdentity_23 rfl ?_
    refine zr_iload_n i_Mod_sayIdentity_24 rfl ?_
    refine zr_cv1 i_Mod_sayIdentity_25 rfl (by decide) rfl (Nat.le_of_ble_eq_true rfl) (Nat.le_of_ble_eq_true rfl) (v_sizeOf X _ g (mrc ms ((l ++ [ms.2 14 0]) ++ ((mV ms 1 2 1 1).getD []).take i)) (mfind ms 0 1 2 1 1) (mto_find hT _ _ _ _ : mto ms _)) ?_
    refine zr_top (y := nI (tl (mV ms 1 2 1 1))) rfl ?_
    refine zn_icmp_ge 47 i_Mod_sayIdentity_28 (by decide) (by omega) (by omega) (fun c_28 => ?_) (fun q => absurd q (by first | assumption | omega | simp_all))
    refine zr_aload_n i_Mod_sayIdentity_47 rfl ?_
    refine zr_aload_n i_Mod_sayIdentity_48 rfl ?_
    refine zr_getf i_Mod_sayIdentity_49 rfl rfl rfl ?_
    refine zn_iconst 0 i_Mod_sayIdentity_52 (by decide) ?_
    refine zn_caload i_Mod_sayIdentity_53 rfl (by omega) (by decide) ?_
    refine zr_cv10 i_Mod_sayIdentity_54 rfl (by decide) rfl (Nat.le_of_ble_eq_true rfl) (Nat.le_of_ble_eq_true rfl) (e_Mod_say X _ g ms ((l ++ [ms.2 14 0]) ++ ((mV ms 1 2 1 1).getD []).take i) (by simp; omega) (ms.2 14 0) (hS 0 (by decide))) ?_
    exact zR.retE i_Mod_sayIdentity_57 rfl (by rw [List.take_of_length_le (show ((mV ms 1 2 1 1).getD []).length ≤ i by simp [tl] at hik; omega)])
  | succ k ih =>
    intro i hik
    refine zr_iload_n i_Mod_sayIdentity_22 rfl ?_
    refine zr_aload_n i_Mod_sayIdentity_23 rfl ?_
    refine zr_iload_n i_Mod_sayIdentity_24 rfl ?_
    refine zr_cv1 i_Mod_sayIdentity_25 rfl (by decide) rfl (Nat.le_of_ble_eq_true rfl) (Nat.le_of_ble_eq_true rfl) (v_sizeOf X _ g (mrc ms ((l ++ [ms.2 14 0]) ++ ((mV ms 1 2 1 1).getD []).take i)) (mfind ms 0 1 2 1 1) (mto_find hT _ _ _ _ : mto ms _)) ?_
    refine zr_top (y := nI (tl (mV ms 1 2 1 1))) rfl ?_
    refine zn_icmp_ge 47 i_Mod_sayIdentity_28 (by decide) (by omega) (by omega) (fun q => absurd q (by first | assumption | omega | simp_all)) (fun c_28 => ?_)
    refine zr_aload_n i_Mod_sayIdentity_31 rfl ?_
    refine zr_aload_n i_Mod_sayIdentity_32 rfl ?_
    refine zr_iload_n i_Mod_sayIdentity_33 rfl ?_
    refine zr_iload_n i_Mod_sayIdentity_34 rfl ?_
    refine zr_cv2 i_Mod_sayIdentity_35 rfl (by decide) rfl (Nat.le_of_ble_eq_true rfl) (Nat.le_of_ble_eq_true rfl) (v_charOf X _ g (mrc ms ((l ++ [ms.2 14 0]) ++ ((mV ms 1 2 1 1).getD []).take i)) (mfind ms 0 1 2 1 1) (mto_find hT _ _ _ _ : mto ms _) i (by omega)) ?_
    refine zr_cv10 i_Mod_sayIdentity_38 rfl (by decide) rfl (Nat.le_of_ble_eq_true rfl) (Nat.le_of_ble_eq_true rfl) (e_Mod_say X _ g ms ((l ++ [ms.2 14 0]) ++ ((mV ms 1 2 1 1).getD []).take i) (by simp; omega) (tc (mV ms 1 2 1 1) i) (hC i (by omega))) ?_
    refine zn_iinc i_Mod_sayIdentity_41 rfl rfl ?_
    refine zr_goto 22 i_Mod_sayIdentity_44 (by decide) ?_
    (have e := ih (i + 1) (by omega)
     rw [show (l ++ [ms.2 14 0]) ++ ((mV ms 1 2 1 1).getD []).take (i + 1) = (l ++ [ms.2 14 0]) ++ ((mV ms 1 2 1 1).getD []).take i ++ [tc (mV ms 1 2 1 1) i] by
       rw [List.append_assoc (l ++ [ms.2 14 0]), List.take_succ, List.getElem?_eq_getElem (show i < ((mV ms 1 2 1 1).getD []).length from (show i < tl (mV ms 1 2 1 1) by omega))]
       simp [tc, List.getD_eq_getElem?_getD, List.getElem?_eq_getElem (show i < ((mV ms 1 2 1 1).getD []).length from (show i < tl (mV ms 1 2 1 1) by omega))]] at e
     exact e)
theorem e_Mod_sayIdentity (X : zX) (d : Nat) (g : zH) (ms : zMS) (cnt : Nat) (hT : mTV ms 0 cnt) (l : List Int32) (hl : l.length + 2 + tl (mV ms 1 2 1 1) ≤ 64) (hS : ∀ k, k < 5 → zch (ms.2 14 k)) (hC : ∀ i, i < tl (mV ms 1 2 1 1) → zch (tc (mV ms 1 2 1 1) i)) : zR X (d + 2) 141 0 (zent 3 [.ref 129]) [] (mset g (mrc ms l)) (none, mset g (mrc ms (l ++ [ms.2 14 0] ++ ((mV ms 1 2 1 1).getD []) ++ [ms.2 14 0]))) := by
  refine zr_aload_n i_Mod_sayIdentity_0 rfl ?_
  refine zn_iconst 0 i_Mod_sayIdentity_1 (by decide) ?_
  refine zr_iconst i_Mod_sayIdentity_2 (v := 1) (by decide) ?_
  refine zr_iconst i_Mod_sayIdentity_3 (v := 2) (by decide) ?_
  refine zr_iconst i_Mod_sayIdentity_4 (v := 1) (by decide) ?_
  refine zr_iconst i_Mod_sayIdentity_5 (v := 1) (by decide) ?_
  refine zr_cv5 i_Mod_sayIdentity_6 rfl (by decide) rfl (Nat.le_of_ble_eq_true rfl) (Nat.le_of_ble_eq_true rfl) (e_Mod_find X _ g (mrc ms l) 0 cnt _ _ _ _ (by decide) hT.1 hT.2.1) ?_
  refine zr_istore_n i_Mod_sayIdentity_9 rfl ?_
  refine zr_aload_n i_Mod_sayIdentity_10 rfl ?_
  refine zr_aload_n i_Mod_sayIdentity_11 rfl ?_
  refine zr_getf i_Mod_sayIdentity_12 rfl rfl rfl ?_
  refine zn_iconst 0 i_Mod_sayIdentity_15 (by decide) ?_
  refine zn_caload i_Mod_sayIdentity_16 rfl (by omega) (by decide) ?_
  refine zr_cv10 i_Mod_sayIdentity_17 rfl (by decide) rfl (Nat.le_of_ble_eq_true rfl) (Nat.le_of_ble_eq_true rfl) (e_Mod_say X _ g ms l (by omega) (ms.2 14 0) (hS 0 (by decide))) ?_
  refine zn_iconst 0 i_Mod_sayIdentity_20 (by decide) ?_
  refine zr_istore_n i_Mod_sayIdentity_21 rfl ?_
  (have e := l_Mod_sayIdentity X d g ms cnt hT l hl hS hC (tl (mV ms 1 2 1 1)) 0 (by omega)
   rw [List.take_zero, List.append_nil] at e
   exact e)
end
section
/-! THE REFERENCE: the receipt, keeping -/
def recF (s : Nat → Int32) (id : List Int32) (r : Nat) : List Int32 := [72, 68, 82, s 0, s 1, s 2, s 3, s 4, s 0, 69, 78, 71, s 0] ++ id ++ [s 0, 65, 67, 75, 13, 77, 83, 65, s 0, 65, if r = 0 then 65 else if 10 < r then 69 else 82, s 0] ++ id ++ [s 0] ++ (if 9 < r then [49] else []) ++ [nI (48 + r % 10)]
theorem i_Mod_write0_0 : zins 138 0 = some (.aload_n 0) := by decide +kernel
theorem i_Mod_write0_1 : zins 138 1 = some (.bipush 72) := by decide +kernel
theorem i_Mod_write0_3 : zins 138 3 = some (.bipush 68) := by decide +kernel
theorem i_Mod_write0_5 : zins 138 5 = some (.bipush 82) := by decide +kernel
theorem i_Mod_write0_7 : zins 138 7 = some (.invokevirtual 230) := by decide +kernel
theorem i_Mod_write0_10 : zins 138 10 = some (.iconst 0) := by decide +kernel
theorem i_Mod_write0_11 : zins 138 11 = some (.istore_n 2) := by decide +kernel
theorem i_Mod_write0_12 : zins 138 12 = some (.iload_n 2) := by decide +kernel
theorem i_Mod_write0_13 : zins 138 13 = some (.iconst 5) := by decide +kernel
theorem i_Mod_write0_14 : zins 138 14 = some (.if_icmp .ge 19) := by decide +kernel
theorem i_Mod_write0_17 : zins 138 17 = some (.aload_n 0) := by decide +kernel
theorem i_Mod_write0_18 : zins 138 18 = some (.aload_n 0) := by decide +kernel
theorem i_Mod_write0_19 : zins 138 19 = some (.getfield 50) := by decide +kernel
theorem i_Mod_write0_22 : zins 138 22 = some (.iload_n 2) := by decide +kernel
theorem i_Mod_write0_23 : zins 138 23 = some (.caload) := by decide +kernel
theorem i_Mod_write0_24 : zins 138 24 = some (.invokevirtual 227) := by decide +kernel
theorem i_Mod_write0_27 : zins 138 27 = some (.iinc 2 1) := by decide +kernel
theorem i_Mod_write0_30 : zins 138 30 = some (.goto (-18)) := by decide +kernel
theorem i_Mod_write0_33 : zins 138 33 = some (.aload_n 0) := by decide +kernel
theorem i_Mod_write0_34 : zins 138 34 = some (.aload_n 0) := by decide +kernel
theorem i_Mod_write0_35 : zins 138 35 = some (.getfield 50) := by decide +kernel
theorem i_Mod_write0_38 : zins 138 38 = some (.iconst 0) := by decide +kernel
theorem i_Mod_write0_39 : zins 138 39 = some (.caload) := by decide +kernel
theorem i_Mod_write0_40 : zins 138 40 = some (.invokevirtual 227) := by decide +kernel
theorem i_Mod_write0_43 : zins 138 43 = some (.aload_n 0) := by decide +kernel
theorem i_Mod_write0_44 : zins 138 44 = some (.bipush 69) := by decide +kernel
theorem i_Mod_write0_46 : zins 138 46 = some (.bipush 78) := by decide +kernel
theorem i_Mod_write0_48 : zins 138 48 = some (.bipush 71) := by decide +kernel
theorem i_Mod_write0_50 : zins 138 50 = some (.invokevirtual 230) := by decide +kernel
theorem i_Mod_write0_53 : zins 138 53 = some (.aload_n 0) := by decide +kernel
theorem i_Mod_write0_54 : zins 138 54 = some (.invokevirtual 234) := by decide +kernel
theorem i_Mod_write0_57 : zins 138 57 = some (.aload_n 0) := by decide +kernel
theorem i_Mod_write0_58 : zins 138 58 = some (.bipush 65) := by decide +kernel
theorem i_Mod_write0_60 : zins 138 60 = some (.bipush 67) := by decide +kernel
theorem i_Mod_write0_62 : zins 138 62 = some (.bipush 75) := by decide +kernel
theorem i_Mod_write0_64 : zins 138 64 = some (.invokevirtual 230) := by decide +kernel
theorem i_Mod_write0_67 : zins 138 67 = some (.aload_n 0) := by decide +kernel
theorem i_Mod_write0_68 : zins 138 68 = some (.bipush 13) := by decide +kernel
theorem i_Mod_write0_70 : zins 138 70 = some (.invokevirtual 227) := by decide +kernel
theorem i_Mod_write0_73 : zins 138 73 = some (.aload_n 0) := by decide +kernel
theorem i_Mod_write0_74 : zins 138 74 = some (.bipush 77) := by decide +kernel
theorem i_Mod_write0_76 : zins 138 76 = some (.bipush 83) := by decide +kernel
theorem i_Mod_write0_78 : zins 138 78 = some (.bipush 65) := by decide +kernel
theorem i_Mod_write0_80 : zins 138 80 = some (.invokevirtual 230) := by decide +kernel
theorem i_Mod_write0_83 : zins 138 83 = some (.aload_n 0) := by decide +kernel
theorem i_Mod_write0_84 : zins 138 84 = some (.aload_n 0) := by decide +kernel
theorem i_Mod_write0_85 : zins 138 85 = some (.getfield 50) := by decide +kernel
theorem i_Mod_write0_88 : zins 138 88 = some (.iconst 0) := by decide +kernel
theorem i_Mod_write0_89 : zins 138 89 = some (.caload) := by decide +kernel
theorem i_Mod_write0_90 : zins 138 90 = some (.invokevirtual 227) := by decide +kernel
theorem i_Mod_write0_93 : zins 138 93 = some (.aload_n 0) := by decide +kernel
theorem i_Mod_write0_94 : zins 138 94 = some (.bipush 65) := by decide +kernel
theorem i_Mod_write0_96 : zins 138 96 = some (.invokevirtual 227) := by decide +kernel
theorem i_Mod_write0_99 : zins 138 99 = some (.aload_n 0) := by decide +kernel
theorem i_Mod_write0_100 : zins 138 100 = some (.iload_n 1) := by decide +kernel
theorem i_Mod_write0_101 : zins 138 101 = some (.ifCond .ne 8) := by decide +kernel
theorem i_Mod_write0_104 : zins 138 104 = some (.bipush 65) := by decide +kernel
theorem i_Mod_write0_106 : zins 138 106 = some (.goto 16) := by decide +kernel
theorem i_Mod_write0_109 : zins 138 109 = some (.iload_n 1) := by decide +kernel
theorem i_Mod_write0_110 : zins 138 110 = some (.bipush 10) := by decide +kernel
theorem i_Mod_write0_112 : zins 138 112 = some (.if_icmp .le 8) := by decide +kernel
theorem i_Mod_write0_115 : zins 138 115 = some (.bipush 69) := by decide +kernel
theorem i_Mod_write0_117 : zins 138 117 = some (.goto 5) := by decide +kernel
theorem i_Mod_write0_120 : zins 138 120 = some (.bipush 82) := by decide +kernel
theorem i_Mod_write0_122 : zins 138 122 = some (.invokevirtual 227) := by decide +kernel
theorem i_Mod_write0_125 : zins 138 125 = some (.aload_n 0) := by decide +kernel
theorem i_Mod_write0_126 : zins 138 126 = some (.invokevirtual 234) := by decide +kernel
theorem i_Mod_write0_129 : zins 138 129 = some (.iload_n 1) := by decide +kernel
theorem i_Mod_write0_130 : zins 138 130 = some (.bipush 9) := by decide +kernel
theorem i_Mod_write0_132 : zins 138 132 = some (.if_icmp .le 9) := by decide +kernel
theorem i_Mod_write0_135 : zins 138 135 = some (.aload_n 0) := by decide +kernel
theorem i_Mod_write0_136 : zins 138 136 = some (.bipush 49) := by decide +kernel
theorem i_Mod_write0_138 : zins 138 138 = some (.invokevirtual 227) := by decide +kernel
theorem i_Mod_write0_141 : zins 138 141 = some (.aload_n 0) := by decide +kernel
theorem i_Mod_write0_142 : zins 138 142 = some (.bipush 48) := by decide +kernel
theorem i_Mod_write0_144 : zins 138 144 = some (.iload_n 1) := by decide +kernel
theorem i_Mod_write0_145 : zins 138 145 = some (.bipush 10) := by decide +kernel
theorem i_Mod_write0_147 : zins 138 147 = some (.irem) := by decide +kernel
theorem i_Mod_write0_148 : zins 138 148 = some (.iadd) := by decide +kernel
theorem i_Mod_write0_149 : zins 138 149 = some (.i2c) := by decide +kernel
theorem i_Mod_write0_150 : zins 138 150 = some (.invokevirtual 227) := by decide +kernel
theorem i_Mod_write0_153 : zins 138 153 = some (.return_) := by decide +kernel
theorem e_Mod_write0 (X : zX) (d : Nat) (g : zH) (ms : zMS) (cnt : Nat) (hT : mTV ms 0 cnt) (r : Nat) (hr : r < 20) (hid : ((mV ms 1 2 1 1).getD []).length ≤ 6) (hS : ∀ k, k < 5 → zch (ms.2 14 k)) (hC : ∀ i, i < tl (mV ms 1 2 1 1) → zch (tc (mV ms 1 2 1 1) i)) : zR X (d + 3) 138 0 (zent 3 [.ref 129, .int (nI r)]) [] (mset g (mrc ms [])) (none, mset g (mrc ms (recF (ms.2 14) ((mV ms 1 2 1 1).getD []) r))) := by
  refine zr_aload_n i_Mod_write0_0 rfl ?_
  refine zr_bipush i_Mod_write0_1 (v := 72) (by decide) ?_
  refine zr_bipush i_Mod_write0_3 (v := 68) (by decide) ?_
  refine zr_bipush i_Mod_write0_5 (v := 82) (by decide) ?_
  refine zr_cv30 i_Mod_write0_7 rfl (by decide) rfl (Nat.le_of_ble_eq_true rfl) (Nat.le_of_ble_eq_true rfl) (e_Mod_sayThree X _ g ms [] (by simp <;> omega) 72 68 82 (by unfold zch; decide) (by unfold zch; decide) (by unfold zch; decide)) ?_
  refine zn_iconst 0 i_Mod_write0_10 (by decide) ?_
  refine zr_istore_n i_Mod_write0_11 rfl ?_
  refine zr_iload_n i_Mod_write0_12 rfl ?_
  refine zn_iconst 5 i_Mod_write0_13 (by decide) ?_
  refine zr_icmp_ge 33 i_Mod_write0_14 (by decide) (fun q => absurd q (by decide)) (fun _ => ?_)
  refine zr_aload_n i_Mod_write0_17 rfl ?_
  refine zr_aload_n i_Mod_write0_18 rfl ?_
  refine zr_getf i_Mod_write0_19 rfl rfl rfl ?_
  refine zr_iload_n i_Mod_write0_22 rfl ?_
  refine zn_caload i_Mod_write0_23 rfl (by omega) (by decide) ?_
  refine zr_cv10 i_Mod_write0_24 rfl (by decide) rfl (Nat.le_of_ble_eq_true rfl) (Nat.le_of_ble_eq_true rfl) (e_Mod_say X _ g ms ([] ++ [72, 68, 82]) (by simp <;> omega) (ms.2 14 0) (hS _ (by decide))) ?_
  refine zn_iinc i_Mod_write0_27 rfl rfl ?_
  refine zr_goto 12 i_Mod_write0_30 (by decide) ?_
  refine zr_iload_n i_Mod_write0_12 rfl ?_
  refine zn_iconst 5 i_Mod_write0_13 (by decide) ?_
  refine zr_icmp_ge 33 i_Mod_write0_14 (by decide) (fun q => absurd q (by decide)) (fun _ => ?_)
  refine zr_aload_n i_Mod_write0_17 rfl ?_
  refine zr_aload_n i_Mod_write0_18 rfl ?_
  refine zr_getf i_Mod_write0_19 rfl rfl rfl ?_
  refine zr_iload_n i_Mod_write0_22 rfl ?_
  refine zn_caload i_Mod_write0_23 rfl (by omega) (by decide) ?_
  refine zr_cv10 i_Mod_write0_24 rfl (by decide) rfl (Nat.le_of_ble_eq_true rfl) (Nat.le_of_ble_eq_true rfl) (e_Mod_say X _ g ms (([] ++ [72, 68, 82]) ++ [(ms.2 14 0)]) (by simp <;> omega) (ms.2 14 1) (hS _ (by decide))) ?_
  refine zn_iinc i_Mod_write0_27 rfl rfl ?_
  refine zr_goto 12 i_Mod_write0_30 (by decide) ?_
  refine zr_iload_n i_Mod_write0_12 rfl ?_
  refine zn_iconst 5 i_Mod_write0_13 (by decide) ?_
  refine zr_icmp_ge 33 i_Mod_write0_14 (by decide) (fun q => absurd q (by decide)) (fun _ => ?_)
  refine zr_aload_n i_Mod_write0_17 rfl ?_
  refine zr_aload_n i_Mod_write0_18 rfl ?_
  refine zr_getf i_Mod_write0_19 rfl rfl rfl ?_
  refine zr_iload_n i_Mod_write0_22 rfl ?_
  refine zn_caload i_Mod_write0_23 rfl (by omega) (by decide) ?_
  refine zr_cv10 i_Mod_write0_24 rfl (by decide) rfl (Nat.le_of_ble_eq_true rfl) (Nat.le_of_ble_eq_true rfl) (e_Mod_say X _ g ms ((([] ++ [72, 68, 82]) ++ [(ms.2 14 0)]) ++ [(ms.2 14 1)]) (by simp <;> omega) (ms.2 14 2) (hS _ (by decide))) ?_
  refine zn_iinc i_Mod_write0_27 rfl rfl ?_
  refine zr_goto 12 i_Mod_write0_30 (by decide) ?_
  refine zr_iload_n i_Mod_write0_12 rfl ?_
  refine zn_iconst 5 i_Mod_write0_13 (by decide) ?_
  refine zr_icmp_ge 33 i_Mod_write0_14 (by decide) (fun q => absurd q (by decide)) (fun _ => ?_)
  refine zr_aload_n i_Mod_write0_17 rfl ?_
  refine zr_aload_n i_Mod_write0_18 rfl ?_
  refine zr_getf i_Mod_write0_19 rfl rfl rfl ?_
  refine zr_iload_n i_Mod_write0_22 rfl ?_
  refine zn_caload i_Mod_write0_23 rfl (by omega) (by decide) ?_
  refine zr_cv10 i_Mod_write0_24 rfl (by decide) rfl (Nat.le_of_ble_eq_true rfl) (Nat.le_of_ble_eq_true rfl) (e_Mod_say X _ g ms (((([] ++ [72, 68, 82]) ++ [(ms.2 14 0)]) ++ [(ms.2 14 1)]) ++ [(ms.2 14 2)]) (by simp <;> omega) (ms.2 14 3) (hS _ (by decide))) ?_
  refine zn_iinc i_Mod_write0_27 rfl rfl ?_
  refine zr_goto 12 i_Mod_write0_30 (by decide) ?_
  refine zr_iload_n i_Mod_write0_12 rfl ?_
  refine zn_iconst 5 i_Mod_write0_13 (by decide) ?_
  refine zr_icmp_ge 33 i_Mod_write0_14 (by decide) (fun q => absurd q (by decide)) (fun _ => ?_)
  refine zr_aload_n i_Mod_write0_17 rfl ?_
  refine zr_aload_n i_Mod_write0_18 rfl ?_
  refine zr_getf i_Mod_write0_19 rfl rfl rfl ?_
  refine zr_iload_n i_Mod_write0_22 rfl ?_
  refine zn_caload i_Mod_write0_23 rfl (by omega) (by decide) ?_
  refine zr_cv10 i_Mod_write0_24 rfl (by decide) rfl (Nat.le_of_ble_eq_true rfl) (Nat.le_of_ble_eq_true rfl) (e_Mod_say X _ g ms ((((([] ++ [72, 68, 82]) ++ [(ms.2 14 0)]) ++ [(ms.2 14 1)]) ++ [(ms.2 14 2)]) ++ [(ms.2 14 3)]) (by simp <;> omega) (ms.2 14 4) (hS _ (by decide))) ?_
  refine zn_iinc i_Mod_write0_27 rfl rfl ?_
  refine zr_goto 12 i_Mod_write0_30 (by decide) ?_
  refine zr_iload_n i_Mod_write0_12 rfl ?_
  refine zn_iconst 5 i_Mod_write0_13 (by decide) ?_
  refine zr_icmp_ge 33 i_Mod_write0_14 (by decide) (fun _ => ?_) (fun q => absurd q (by decide))
  refine zr_aload_n i_Mod_write0_33 rfl ?_
  refine zr_aload_n i_Mod_write0_34 rfl ?_
  refine zr_getf i_Mod_write0_35 rfl rfl rfl ?_
  refine zn_iconst 0 i_Mod_write0_38 (by decide) ?_
  refine zn_caload i_Mod_write0_39 rfl (by omega) (by decide) ?_
  refine zr_cv10 i_Mod_write0_40 rfl (by decide) rfl (Nat.le_of_ble_eq_true rfl) (Nat.le_of_ble_eq_true rfl) (e_Mod_say X _ g ms (((((([] ++ [72, 68, 82]) ++ [(ms.2 14 0)]) ++ [(ms.2 14 1)]) ++ [(ms.2 14 2)]) ++ [(ms.2 14 3)]) ++ [(ms.2 14 4)]) (by simp <;> omega) (ms.2 14 0) (hS _ (by decide))) ?_
  refine zr_aload_n i_Mod_write0_43 rfl ?_
  refine zr_bipush i_Mod_write0_44 (v := 69) (by decide) ?_
  refine zr_bipush i_Mod_write0_46 (v := 78) (by decide) ?_
  refine zr_bipush i_Mod_write0_48 (v := 71) (by decide) ?_
  refine zr_cv30 i_Mod_write0_50 rfl (by decide) rfl (Nat.le_of_ble_eq_true rfl) (Nat.le_of_ble_eq_true rfl) (e_Mod_sayThree X _ g ms ((((((([] ++ [72, 68, 82]) ++ [(ms.2 14 0)]) ++ [(ms.2 14 1)]) ++ [(ms.2 14 2)]) ++ [(ms.2 14 3)]) ++ [(ms.2 14 4)]) ++ [(ms.2 14 0)]) (by simp <;> omega) 69 78 71 (by unfold zch; decide) (by unfold zch; decide) (by unfold zch; decide)) ?_
  refine zr_aload_n i_Mod_write0_53 rfl ?_
  refine zr_cv00 i_Mod_write0_54 rfl (by decide) rfl (Nat.le_of_ble_eq_true rfl) (Nat.le_of_ble_eq_true rfl) (e_Mod_sayIdentity X _ g ms cnt hT (((((((([] ++ [72, 68, 82]) ++ [(ms.2 14 0)]) ++ [(ms.2 14 1)]) ++ [(ms.2 14 2)]) ++ [(ms.2 14 3)]) ++ [(ms.2 14 4)]) ++ [(ms.2 14 0)]) ++ [69, 78, 71]) (by simp [tl] <;> omega) hS hC) ?_
  refine zr_aload_n i_Mod_write0_57 rfl ?_
  refine zr_bipush i_Mod_write0_58 (v := 65) (by decide) ?_
  refine zr_bipush i_Mod_write0_60 (v := 67) (by decide) ?_
  refine zr_bipush i_Mod_write0_62 (v := 75) (by decide) ?_
  refine zr_cv30 i_Mod_write0_64 rfl (by decide) rfl (Nat.le_of_ble_eq_true rfl) (Nat.le_of_ble_eq_true rfl) (e_Mod_sayThree X _ g ms ((((((((([] ++ [72, 68, 82]) ++ [(ms.2 14 0)]) ++ [(ms.2 14 1)]) ++ [(ms.2 14 2)]) ++ [(ms.2 14 3)]) ++ [(ms.2 14 4)]) ++ [(ms.2 14 0)]) ++ [69, 78, 71]) ++ [ms.2 14 0] ++ ((mV ms 1 2 1 1).getD []) ++ [ms.2 14 0]) (by simp <;> omega) 65 67 75 (by unfold zch; decide) (by unfold zch; decide) (by unfold zch; decide)) ?_
  refine zr_aload_n i_Mod_write0_67 rfl ?_
  refine zr_bipush i_Mod_write0_68 (v := 13) (by decide) ?_
  refine zr_cv10 i_Mod_write0_70 rfl (by decide) rfl (Nat.le_of_ble_eq_true rfl) (Nat.le_of_ble_eq_true rfl) (e_Mod_say X _ g ms (((((((((([] ++ [72, 68, 82]) ++ [(ms.2 14 0)]) ++ [(ms.2 14 1)]) ++ [(ms.2 14 2)]) ++ [(ms.2 14 3)]) ++ [(ms.2 14 4)]) ++ [(ms.2 14 0)]) ++ [69, 78, 71]) ++ [ms.2 14 0] ++ ((mV ms 1 2 1 1).getD []) ++ [ms.2 14 0]) ++ [65, 67, 75]) (by simp <;> omega) (13) (by unfold zch; decide)) ?_
  refine zr_aload_n i_Mod_write0_73 rfl ?_
  refine zr_bipush i_Mod_write0_74 (v := 77) (by decide) ?_
  refine zr_bipush i_Mod_write0_76 (v := 83) (by decide) ?_
  refine zr_bipush i_Mod_write0_78 (v := 65) (by decide) ?_
  refine zr_cv30 i_Mod_write0_80 rfl (by decide) rfl (Nat.le_of_ble_eq_true rfl) (Nat.le_of_ble_eq_true rfl) (e_Mod_sayThree X _ g ms ((((((((((([] ++ [72, 68, 82]) ++ [(ms.2 14 0)]) ++ [(ms.2 14 1)]) ++ [(ms.2 14 2)]) ++ [(ms.2 14 3)]) ++ [(ms.2 14 4)]) ++ [(ms.2 14 0)]) ++ [69, 78, 71]) ++ [ms.2 14 0] ++ ((mV ms 1 2 1 1).getD []) ++ [ms.2 14 0]) ++ [65, 67, 75]) ++ [(13)]) (by simp <;> omega) 77 83 65 (by unfold zch; decide) (by unfold zch; decide) (by unfold zch; decide)) ?_
  refine zr_aload_n i_Mod_write0_83 rfl ?_
  refine zr_aload_n i_Mod_write0_84 rfl ?_
  refine zr_getf i_Mod_write0_85 rfl rfl rfl ?_
  refine zn_iconst 0 i_Mod_write0_88 (by decide) ?_
  refine zn_caload i_Mod_write0_89 rfl (by omega) (by decide) ?_
  refine zr_cv10 i_Mod_write0_90 rfl (by decide) rfl (Nat.le_of_ble_eq_true rfl) (Nat.le_of_ble_eq_true rfl) (e_Mod_say X _ g ms (((((((((((([] ++ [72, 68, 82]) ++ [(ms.2 14 0)]) ++ [(ms.2 14 1)]) ++ [(ms.2 14 2)]) ++ [(ms.2 14 3)]) ++ [(ms.2 14 4)]) ++ [(ms.2 14 0)]) ++ [69, 78, 71]) ++ [ms.2 14 0] ++ ((mV ms 1 2 1 1).getD []) ++ [ms.2 14 0]) ++ [65, 67, 75]) ++ [(13)]) ++ [77, 83, 65]) (by simp <;> omega) (ms.2 14 0) (hS _ (by decide))) ?_
  refine zr_aload_n i_Mod_write0_93 rfl ?_
  refine zr_bipush i_Mod_write0_94 (v := 65) (by decide) ?_
  refine zr_cv10 i_Mod_write0_96 rfl (by decide) rfl (Nat.le_of_ble_eq_true rfl) (Nat.le_of_ble_eq_true rfl) (e_Mod_say X _ g ms ((((((((((((([] ++ [72, 68, 82]) ++ [(ms.2 14 0)]) ++ [(ms.2 14 1)]) ++ [(ms.2 14 2)]) ++ [(ms.2 14 3)]) ++ [(ms.2 14 4)]) ++ [(ms.2 14 0)]) ++ [69, 78, 71]) ++ [ms.2 14 0] ++ ((mV ms 1 2 1 1).getD []) ++ [ms.2 14 0]) ++ [65, 67, 75]) ++ [(13)]) ++ [77, 83, 65]) ++ [(ms.2 14 0)]) (by simp <;> omega) (65) (by unfold zch; decide)) ?_
  refine zr_aload_n i_Mod_write0_99 rfl ?_
  refine zr_iload_n i_Mod_write0_100 rfl ?_
  refine zN_if_ne 109 i_Mod_write0_101 (by decide) (by omega) (fun c_101 => ?_) (fun c_101 => ?_)
  · skip
    refine zr_iload_n i_Mod_write0_109 rfl ?_
    refine zn_bipush 10 i_Mod_write0_110 (by decide) ?_
    refine zn_icmp_le 120 i_Mod_write0_112 (by decide) (by omega) (by omega) (fun c_112 => ?_) (fun c_112 => ?_)
    · skip
      refine zr_bipush i_Mod_write0_120 (v := 82) (by decide) ?_
      refine zr_cv10 i_Mod_write0_122 rfl (by decide) rfl (Nat.le_of_ble_eq_true rfl) (Nat.le_of_ble_eq_true rfl) (e_Mod_say X _ g ms (((((((((((((([] ++ [72, 68, 82]) ++ [(ms.2 14 0)]) ++ [(ms.2 14 1)]) ++ [(ms.2 14 2)]) ++ [(ms.2 14 3)]) ++ [(ms.2 14 4)]) ++ [(ms.2 14 0)]) ++ [69, 78, 71]) ++ [ms.2 14 0] ++ ((mV ms 1 2 1 1).getD []) ++ [ms.2 14 0]) ++ [65, 67, 75]) ++ [(13)]) ++ [77, 83, 65]) ++ [(ms.2 14 0)]) ++ [(65)]) (by simp <;> omega) (82) (by unfold zch; decide)) ?_
      refine zr_aload_n i_Mod_write0_125 rfl ?_
      refine zr_cv00 i_Mod_write0_126 rfl (by decide) rfl (Nat.le_of_ble_eq_true rfl) (Nat.le_of_ble_eq_true rfl) (e_Mod_sayIdentity X _ g ms cnt hT ((((((((((((((([] ++ [72, 68, 82]) ++ [(ms.2 14 0)]) ++ [(ms.2 14 1)]) ++ [(ms.2 14 2)]) ++ [(ms.2 14 3)]) ++ [(ms.2 14 4)]) ++ [(ms.2 14 0)]) ++ [69, 78, 71]) ++ [ms.2 14 0] ++ ((mV ms 1 2 1 1).getD []) ++ [ms.2 14 0]) ++ [65, 67, 75]) ++ [(13)]) ++ [77, 83, 65]) ++ [(ms.2 14 0)]) ++ [(65)]) ++ [(82)]) (by simp [tl] <;> omega) hS hC) ?_
      refine zr_iload_n i_Mod_write0_129 rfl ?_
      refine zn_bipush 9 i_Mod_write0_130 (by decide) ?_
      refine zn_icmp_le 141 i_Mod_write0_132 (by decide) (by omega) (by omega) (fun c_132 => ?_) (fun c_132 => ?_)
      · skip
        refine zr_aload_n i_Mod_write0_141 rfl ?_
        refine zn_bipush 48 i_Mod_write0_142 (by decide) ?_
        refine zr_iload_n i_Mod_write0_144 rfl ?_
        refine zn_bipush 10 i_Mod_write0_145 (by decide) ?_
        refine zn_irem i_Mod_write0_147 (by omega) (by decide) (by decide) ?_
        refine zn_iadd i_Mod_write0_148 ?_
        refine zn_i2c i_Mod_write0_149 (by omega) ?_
        refine zr_cv10 i_Mod_write0_150 rfl (by decide) rfl (Nat.le_of_ble_eq_true rfl) (Nat.le_of_ble_eq_true rfl) (e_Mod_say X _ g ms (((((((((((((((([] ++ [72, 68, 82]) ++ [(ms.2 14 0)]) ++ [(ms.2 14 1)]) ++ [(ms.2 14 2)]) ++ [(ms.2 14 3)]) ++ [(ms.2 14 4)]) ++ [(ms.2 14 0)]) ++ [69, 78, 71]) ++ [ms.2 14 0] ++ ((mV ms 1 2 1 1).getD []) ++ [ms.2 14 0]) ++ [65, 67, 75]) ++ [(13)]) ++ [77, 83, 65]) ++ [(ms.2 14 0)]) ++ [(65)]) ++ [(82)]) ++ [ms.2 14 0] ++ ((mV ms 1 2 1 1).getD []) ++ [ms.2 14 0]) (by simp <;> omega) (nI (48 + r % 10)) (zch_n (by omega))) ?_
        exact zR.retE i_Mod_write0_153 rfl (by first | (exfalso; omega) | (simp [recF, *]; done) | (simp [recF, show ¬ 10 < r by omega, *]; done) | (simp [recF, show ¬ 10 < r by omega, show ¬ 9 < r by omega, *]; done) | (simp [recF, show ¬ 9 < r by omega, *]; done))
      · skip
        refine zr_aload_n i_Mod_write0_135 rfl ?_
        refine zr_bipush i_Mod_write0_136 (v := 49) (by decide) ?_
        refine zr_cv10 i_Mod_write0_138 rfl (by decide) rfl (Nat.le_of_ble_eq_true rfl) (Nat.le_of_ble_eq_true rfl) (e_Mod_say X _ g ms (((((((((((((((([] ++ [72, 68, 82]) ++ [(ms.2 14 0)]) ++ [(ms.2 14 1)]) ++ [(ms.2 14 2)]) ++ [(ms.2 14 3)]) ++ [(ms.2 14 4)]) ++ [(ms.2 14 0)]) ++ [69, 78, 71]) ++ [ms.2 14 0] ++ ((mV ms 1 2 1 1).getD []) ++ [ms.2 14 0]) ++ [65, 67, 75]) ++ [(13)]) ++ [77, 83, 65]) ++ [(ms.2 14 0)]) ++ [(65)]) ++ [(82)]) ++ [ms.2 14 0] ++ ((mV ms 1 2 1 1).getD []) ++ [ms.2 14 0]) (by simp <;> omega) (49) (by unfold zch; decide)) ?_
        refine zr_aload_n i_Mod_write0_141 rfl ?_
        refine zn_bipush 48 i_Mod_write0_142 (by decide) ?_
        refine zr_iload_n i_Mod_write0_144 rfl ?_
        refine zn_bipush 10 i_Mod_write0_145 (by decide) ?_
        refine zn_irem i_Mod_write0_147 (by omega) (by decide) (by decide) ?_
        refine zn_iadd i_Mod_write0_148 ?_
        refine zn_i2c i_Mod_write0_149 (by omega) ?_
        refine zr_cv10 i_Mod_write0_150 rfl (by decide) rfl (Nat.le_of_ble_eq_true rfl) (Nat.le_of_ble_eq_true rfl) (e_Mod_say X _ g ms ((((((((((((((((([] ++ [72, 68, 82]) ++ [(ms.2 14 0)]) ++ [(ms.2 14 1)]) ++ [(ms.2 14 2)]) ++ [(ms.2 14 3)]) ++ [(ms.2 14 4)]) ++ [(ms.2 14 0)]) ++ [69, 78, 71]) ++ [ms.2 14 0] ++ ((mV ms 1 2 1 1).getD []) ++ [ms.2 14 0]) ++ [65, 67, 75]) ++ [(13)]) ++ [77, 83, 65]) ++ [(ms.2 14 0)]) ++ [(65)]) ++ [(82)]) ++ [ms.2 14 0] ++ ((mV ms 1 2 1 1).getD []) ++ [ms.2 14 0]) ++ [(49)]) (by simp <;> omega) (nI (48 + r % 10)) (zch_n (by omega))) ?_
        exact zR.retE i_Mod_write0_153 rfl (by first | (exfalso; omega) | (simp [recF, *]; done) | (simp [recF, show ¬ 10 < r by omega, *]; done) | (simp [recF, show ¬ 10 < r by omega, show ¬ 9 < r by omega, *]; done) | (simp [recF, show ¬ 9 < r by omega, *]; done))
    · skip
      refine zr_bipush i_Mod_write0_115 (v := 69) (by decide) ?_
      refine zr_goto 122 i_Mod_write0_117 (by decide) ?_
      refine zr_cv10 i_Mod_write0_122 rfl (by decide) rfl (Nat.le_of_ble_eq_true rfl) (Nat.le_of_ble_eq_true rfl) (e_Mod_say X _ g ms (((((((((((((([] ++ [72, 68, 82]) ++ [(ms.2 14 0)]) ++ [(ms.2 14 1)]) ++ [(ms.2 14 2)]) ++ [(ms.2 14 3)]) ++ [(ms.2 14 4)]) ++ [(ms.2 14 0)]) ++ [69, 78, 71]) ++ [ms.2 14 0] ++ ((mV ms 1 2 1 1).getD []) ++ [ms.2 14 0]) ++ [65, 67, 75]) ++ [(13)]) ++ [77, 83, 65]) ++ [(ms.2 14 0)]) ++ [(65)]) (by simp <;> omega) (69) (by unfold zch; decide)) ?_
      refine zr_aload_n i_Mod_write0_125 rfl ?_
      refine zr_cv00 i_Mod_write0_126 rfl (by decide) rfl (Nat.le_of_ble_eq_true rfl) (Nat.le_of_ble_eq_true rfl) (e_Mod_sayIdentity X _ g ms cnt hT ((((((((((((((([] ++ [72, 68, 82]) ++ [(ms.2 14 0)]) ++ [(ms.2 14 1)]) ++ [(ms.2 14 2)]) ++ [(ms.2 14 3)]) ++ [(ms.2 14 4)]) ++ [(ms.2 14 0)]) ++ [69, 78, 71]) ++ [ms.2 14 0] ++ ((mV ms 1 2 1 1).getD []) ++ [ms.2 14 0]) ++ [65, 67, 75]) ++ [(13)]) ++ [77, 83, 65]) ++ [(ms.2 14 0)]) ++ [(65)]) ++ [(69)]) (by simp [tl] <;> omega) hS hC) ?_
      refine zr_iload_n i_Mod_write0_129 rfl ?_
      refine zn_bipush 9 i_Mod_write0_130 (by decide) ?_
      refine zn_icmp_le 141 i_Mod_write0_132 (by decide) (by omega) (by omega) (fun c_132 => ?_) (fun c_132 => ?_)
      · skip
        refine zr_aload_n i_Mod_write0_141 rfl ?_
        refine zn_bipush 48 i_Mod_write0_142 (by decide) ?_
        refine zr_iload_n i_Mod_write0_144 rfl ?_
        refine zn_bipush 10 i_Mod_write0_145 (by decide) ?_
        refine zn_irem i_Mod_write0_147 (by omega) (by decide) (by decide) ?_
        refine zn_iadd i_Mod_write0_148 ?_
        refine zn_i2c i_Mod_write0_149 (by omega) ?_
        refine zr_cv10 i_Mod_write0_150 rfl (by decide) rfl (Nat.le_of_ble_eq_true rfl) (Nat.le_of_ble_eq_true rfl) (e_Mod_say X _ g ms (((((((((((((((([] ++ [72, 68, 82]) ++ [(ms.2 14 0)]) ++ [(ms.2 14 1)]) ++ [(ms.2 14 2)]) ++ [(ms.2 14 3)]) ++ [(ms.2 14 4)]) ++ [(ms.2 14 0)]) ++ [69, 78, 71]) ++ [ms.2 14 0] ++ ((mV ms 1 2 1 1).getD []) ++ [ms.2 14 0]) ++ [65, 67, 75]) ++ [(13)]) ++ [77, 83, 65]) ++ [(ms.2 14 0)]) ++ [(65)]) ++ [(69)]) ++ [ms.2 14 0] ++ ((mV ms 1 2 1 1).getD []) ++ [ms.2 14 0]) (by simp <;> omega) (nI (48 + r % 10)) (zch_n (by omega))) ?_
        exact zR.retE i_Mod_write0_153 rfl (by first | (exfalso; omega) | (simp [recF, *]; done) | (simp [recF, show ¬ 10 < r by omega, *]; done) | (simp [recF, show ¬ 10 < r by omega, show ¬ 9 < r by omega, *]; done) | (simp [recF, show ¬ 9 < r by omega, *]; done))
      · skip
        refine zr_aload_n i_Mod_write0_135 rfl ?_
        refine zr_bipush i_Mod_write0_136 (v := 49) (by decide) ?_
        refine zr_cv10 i_Mod_write0_138 rfl (by decide) rfl (Nat.le_of_ble_eq_true rfl) (Nat.le_of_ble_eq_true rfl) (e_Mod_say X _ g ms (((((((((((((((([] ++ [72, 68, 82]) ++ [(ms.2 14 0)]) ++ [(ms.2 14 1)]) ++ [(ms.2 14 2)]) ++ [(ms.2 14 3)]) ++ [(ms.2 14 4)]) ++ [(ms.2 14 0)]) ++ [69, 78, 71]) ++ [ms.2 14 0] ++ ((mV ms 1 2 1 1).getD []) ++ [ms.2 14 0]) ++ [65, 67, 75]) ++ [(13)]) ++ [77, 83, 65]) ++ [(ms.2 14 0)]) ++ [(65)]) ++ [(69)]) ++ [ms.2 14 0] ++ ((mV ms 1 2 1 1).getD []) ++ [ms.2 14 0]) (by simp <;> omega) (49) (by unfold zch; decide)) ?_
        refine zr_aload_n i_Mod_write0_141 rfl ?_
        refine zn_bipush 48 i_Mod_write0_142 (by decide) ?_
        refine zr_iload_n i_Mod_write0_144 rfl ?_
        refine zn_bipush 10 i_Mod_write0_145 (by decide) ?_
        refine zn_irem i_Mod_write0_147 (by omega) (by decide) (by decide) ?_
        refine zn_iadd i_Mod_write0_148 ?_
        refine zn_i2c i_Mod_write0_149 (by omega) ?_
        refine zr_cv10 i_Mod_write0_150 rfl (by decide) rfl (Nat.le_of_ble_eq_true rfl) (Nat.le_of_ble_eq_true rfl) (e_Mod_say X _ g ms ((((((((((((((((([] ++ [72, 68, 82]) ++ [(ms.2 14 0)]) ++ [(ms.2 14 1)]) ++ [(ms.2 14 2)]) ++ [(ms.2 14 3)]) ++ [(ms.2 14 4)]) ++ [(ms.2 14 0)]) ++ [69, 78, 71]) ++ [ms.2 14 0] ++ ((mV ms 1 2 1 1).getD []) ++ [ms.2 14 0]) ++ [65, 67, 75]) ++ [(13)]) ++ [77, 83, 65]) ++ [(ms.2 14 0)]) ++ [(65)]) ++ [(69)]) ++ [ms.2 14 0] ++ ((mV ms 1 2 1 1).getD []) ++ [ms.2 14 0]) ++ [(49)]) (by simp <;> omega) (nI (48 + r % 10)) (zch_n (by omega))) ?_
        exact zR.retE i_Mod_write0_153 rfl (by first | (exfalso; omega) | (simp [recF, *]; done) | (simp [recF, show ¬ 10 < r by omega, *]; done) | (simp [recF, show ¬ 10 < r by omega, show ¬ 9 < r by omega, *]; done) | (simp [recF, show ¬ 9 < r by omega, *]; done))
  · skip
    refine zr_bipush i_Mod_write0_104 (v := 65) (by decide) ?_
    refine zr_goto 122 i_Mod_write0_106 (by decide) ?_
    refine zr_cv10 i_Mod_write0_122 rfl (by decide) rfl (Nat.le_of_ble_eq_true rfl) (Nat.le_of_ble_eq_true rfl) (e_Mod_say X _ g ms (((((((((((((([] ++ [72, 68, 82]) ++ [(ms.2 14 0)]) ++ [(ms.2 14 1)]) ++ [(ms.2 14 2)]) ++ [(ms.2 14 3)]) ++ [(ms.2 14 4)]) ++ [(ms.2 14 0)]) ++ [69, 78, 71]) ++ [ms.2 14 0] ++ ((mV ms 1 2 1 1).getD []) ++ [ms.2 14 0]) ++ [65, 67, 75]) ++ [(13)]) ++ [77, 83, 65]) ++ [(ms.2 14 0)]) ++ [(65)]) (by simp <;> omega) (65) (by unfold zch; decide)) ?_
    refine zr_aload_n i_Mod_write0_125 rfl ?_
    refine zr_cv00 i_Mod_write0_126 rfl (by decide) rfl (Nat.le_of_ble_eq_true rfl) (Nat.le_of_ble_eq_true rfl) (e_Mod_sayIdentity X _ g ms cnt hT ((((((((((((((([] ++ [72, 68, 82]) ++ [(ms.2 14 0)]) ++ [(ms.2 14 1)]) ++ [(ms.2 14 2)]) ++ [(ms.2 14 3)]) ++ [(ms.2 14 4)]) ++ [(ms.2 14 0)]) ++ [69, 78, 71]) ++ [ms.2 14 0] ++ ((mV ms 1 2 1 1).getD []) ++ [ms.2 14 0]) ++ [65, 67, 75]) ++ [(13)]) ++ [77, 83, 65]) ++ [(ms.2 14 0)]) ++ [(65)]) ++ [(65)]) (by simp [tl] <;> omega) hS hC) ?_
    refine zr_iload_n i_Mod_write0_129 rfl ?_
    refine zn_bipush 9 i_Mod_write0_130 (by decide) ?_
    refine zn_icmp_le 141 i_Mod_write0_132 (by decide) (by omega) (by omega) (fun c_132 => ?_) (fun c_132 => ?_)
    · skip
      refine zr_aload_n i_Mod_write0_141 rfl ?_
      refine zn_bipush 48 i_Mod_write0_142 (by decide) ?_
      refine zr_iload_n i_Mod_write0_144 rfl ?_
      refine zn_bipush 10 i_Mod_write0_145 (by decide) ?_
      refine zn_irem i_Mod_write0_147 (by omega) (by decide) (by decide) ?_
      refine zn_iadd i_Mod_write0_148 ?_
      refine zn_i2c i_Mod_write0_149 (by omega) ?_
      refine zr_cv10 i_Mod_write0_150 rfl (by decide) rfl (Nat.le_of_ble_eq_true rfl) (Nat.le_of_ble_eq_true rfl) (e_Mod_say X _ g ms (((((((((((((((([] ++ [72, 68, 82]) ++ [(ms.2 14 0)]) ++ [(ms.2 14 1)]) ++ [(ms.2 14 2)]) ++ [(ms.2 14 3)]) ++ [(ms.2 14 4)]) ++ [(ms.2 14 0)]) ++ [69, 78, 71]) ++ [ms.2 14 0] ++ ((mV ms 1 2 1 1).getD []) ++ [ms.2 14 0]) ++ [65, 67, 75]) ++ [(13)]) ++ [77, 83, 65]) ++ [(ms.2 14 0)]) ++ [(65)]) ++ [(65)]) ++ [ms.2 14 0] ++ ((mV ms 1 2 1 1).getD []) ++ [ms.2 14 0]) (by simp <;> omega) (nI (48 + r % 10)) (zch_n (by omega))) ?_
      exact zR.retE i_Mod_write0_153 rfl (by first | (exfalso; omega) | (simp [recF, *]; done) | (simp [recF, show ¬ 10 < r by omega, *]; done) | (simp [recF, show ¬ 10 < r by omega, show ¬ 9 < r by omega, *]; done) | (simp [recF, show ¬ 9 < r by omega, *]; done))
    · skip
      refine zr_aload_n i_Mod_write0_135 rfl ?_
      refine zr_bipush i_Mod_write0_136 (v := 49) (by decide) ?_
      refine zr_cv10 i_Mod_write0_138 rfl (by decide) rfl (Nat.le_of_ble_eq_true rfl) (Nat.le_of_ble_eq_true rfl) (e_Mod_say X _ g ms (((((((((((((((([] ++ [72, 68, 82]) ++ [(ms.2 14 0)]) ++ [(ms.2 14 1)]) ++ [(ms.2 14 2)]) ++ [(ms.2 14 3)]) ++ [(ms.2 14 4)]) ++ [(ms.2 14 0)]) ++ [69, 78, 71]) ++ [ms.2 14 0] ++ ((mV ms 1 2 1 1).getD []) ++ [ms.2 14 0]) ++ [65, 67, 75]) ++ [(13)]) ++ [77, 83, 65]) ++ [(ms.2 14 0)]) ++ [(65)]) ++ [(65)]) ++ [ms.2 14 0] ++ ((mV ms 1 2 1 1).getD []) ++ [ms.2 14 0]) (by simp <;> omega) (49) (by unfold zch; decide)) ?_
      refine zr_aload_n i_Mod_write0_141 rfl ?_
      refine zn_bipush 48 i_Mod_write0_142 (by decide) ?_
      refine zr_iload_n i_Mod_write0_144 rfl ?_
      refine zn_bipush 10 i_Mod_write0_145 (by decide) ?_
      refine zn_irem i_Mod_write0_147 (by omega) (by decide) (by decide) ?_
      refine zn_iadd i_Mod_write0_148 ?_
      refine zn_i2c i_Mod_write0_149 (by omega) ?_
      refine zr_cv10 i_Mod_write0_150 rfl (by decide) rfl (Nat.le_of_ble_eq_true rfl) (Nat.le_of_ble_eq_true rfl) (e_Mod_say X _ g ms ((((((((((((((((([] ++ [72, 68, 82]) ++ [(ms.2 14 0)]) ++ [(ms.2 14 1)]) ++ [(ms.2 14 2)]) ++ [(ms.2 14 3)]) ++ [(ms.2 14 4)]) ++ [(ms.2 14 0)]) ++ [69, 78, 71]) ++ [ms.2 14 0] ++ ((mV ms 1 2 1 1).getD []) ++ [ms.2 14 0]) ++ [65, 67, 75]) ++ [(13)]) ++ [77, 83, 65]) ++ [(ms.2 14 0)]) ++ [(65)]) ++ [(65)]) ++ [ms.2 14 0] ++ ((mV ms 1 2 1 1).getD []) ++ [ms.2 14 0]) ++ [(49)]) (by simp <;> omega) (nI (48 + r % 10)) (zch_n (by omega))) ?_
      exact zR.retE i_Mod_write0_153 rfl (by first | (exfalso; omega) | (simp [recF, *]; done) | (simp [recF, show ¬ 10 < r by omega, *]; done) | (simp [recF, show ¬ 10 < r by omega, show ¬ 9 < r by omega, *]; done) | (simp [recF, show ¬ 9 < r by omega, *]; done))
theorem i_Mod_answerOf_0 : zins 143 0 = some (.iload_n 0) := by decide +kernel
theorem i_Mod_answerOf_1 : zins 143 1 = some (.ifCond .ne 7) := by decide +kernel
theorem i_Mod_answerOf_4 : zins 143 4 = some (.iconst 0) := by decide +kernel
theorem i_Mod_answerOf_5 : zins 143 5 = some (.goto 14) := by decide +kernel
theorem i_Mod_answerOf_8 : zins 143 8 = some (.iload_n 0) := by decide +kernel
theorem i_Mod_answerOf_9 : zins 143 9 = some (.bipush 10) := by decide +kernel
theorem i_Mod_answerOf_11 : zins 143 11 = some (.if_icmp .le 7) := by decide +kernel
theorem i_Mod_answerOf_14 : zins 143 14 = some (.iconst 1) := by decide +kernel
theorem i_Mod_answerOf_15 : zins 143 15 = some (.goto 4) := by decide +kernel
theorem i_Mod_answerOf_18 : zins 143 18 = some (.iconst 2) := by decide +kernel
theorem i_Mod_answerOf_19 : zins 143 19 = some (.ireturn) := by decide +kernel
def ansF (r : Nat) : Nat := if r = 0 then 0 else if 10 < r then 1 else 2
theorem e_Mod_answerOf (X : zX) (d : Nat) (h : zH) (r : Nat) (hr : r < 20) : zR X d 143 0 (zent 1 [.int (nI r)]) [] h (some (.int (nI (ansF r))), h) := by
  refine zr_iload_n i_Mod_answerOf_0 rfl ?_
  refine zN_if_ne 8 i_Mod_answerOf_1 (by decide) (by omega) (fun c_1 => ?_) (fun c_1 => ?_)
  · skip
    refine zr_iload_n i_Mod_answerOf_8 rfl ?_
    refine zn_bipush 10 i_Mod_answerOf_9 (by decide) ?_
    refine zn_icmp_le 18 i_Mod_answerOf_11 (by decide) (by omega) (by omega) (fun c_11 => ?_) (fun c_11 => ?_)
    · skip
      refine zr_iconst i_Mod_answerOf_18 (v := 2) (by decide) ?_
      exact zR.retE i_Mod_answerOf_19 rfl (by rw [ansF]; first | (rw [if_pos (by omega)]; rfl) | (rw [if_neg (by omega), if_pos (by omega)]; rfl) | (rw [if_neg (by omega), if_neg (by omega)]; rfl))
    · skip
      refine zr_iconst i_Mod_answerOf_14 (v := 1) (by decide) ?_
      refine zr_goto 19 i_Mod_answerOf_15 (by decide) ?_
      exact zR.retE i_Mod_answerOf_19 rfl (by rw [ansF]; first | (rw [if_pos (by omega)]; rfl) | (rw [if_neg (by omega), if_pos (by omega)]; rfl) | (rw [if_neg (by omega), if_neg (by omega)]; rfl))
  · skip
    refine zr_iconst i_Mod_answerOf_4 (v := 0) (by decide) ?_
    refine zr_goto 19 i_Mod_answerOf_5 (by decide) ?_
    exact zR.retE i_Mod_answerOf_19 rfl (by rw [ansF]; first | (rw [if_pos (by omega)]; rfl) | (rw [if_neg (by omega), if_pos (by omega)]; rfl) | (rw [if_neg (by omega), if_neg (by omega)]; rfl))
theorem i_Mod_keep_0 : zins 142 0 = some (.aload_n 0) := by decide +kernel
theorem i_Mod_keep_1 : zins 142 1 = some (.getfield 13) := by decide +kernel
theorem i_Mod_keep_4 : zins 142 4 = some (.iconst 1) := by decide +kernel
theorem i_Mod_keep_5 : zins 142 5 = some (.aload_n 0) := by decide +kernel
theorem i_Mod_keep_6 : zins 142 6 = some (.getfield 13) := by decide +kernel
theorem i_Mod_keep_9 : zins 142 9 = some (.iconst 0) := by decide +kernel
theorem i_Mod_keep_10 : zins 142 10 = some (.iaload) := by decide +kernel
theorem i_Mod_keep_11 : zins 142 11 = some (.iastore) := by decide +kernel
theorem i_Mod_keep_12 : zins 142 12 = some (.aload_n 0) := by decide +kernel
theorem i_Mod_keep_13 : zins 142 13 = some (.getfield 17) := by decide +kernel
theorem i_Mod_keep_16 : zins 142 16 = some (.iconst 1) := by decide +kernel
theorem i_Mod_keep_17 : zins 142 17 = some (.aload_n 0) := by decide +kernel
theorem i_Mod_keep_18 : zins 142 18 = some (.getfield 17) := by decide +kernel
theorem i_Mod_keep_21 : zins 142 21 = some (.iconst 0) := by decide +kernel
theorem i_Mod_keep_22 : zins 142 22 = some (.iaload) := by decide +kernel
theorem i_Mod_keep_23 : zins 142 23 = some (.iastore) := by decide +kernel
theorem i_Mod_keep_24 : zins 142 24 = some (.aload_n 0) := by decide +kernel
theorem i_Mod_keep_25 : zins 142 25 = some (.getfield 20) := by decide +kernel
theorem i_Mod_keep_28 : zins 142 28 = some (.iconst 1) := by decide +kernel
theorem i_Mod_keep_29 : zins 142 29 = some (.aload_n 0) := by decide +kernel
theorem i_Mod_keep_30 : zins 142 30 = some (.getfield 20) := by decide +kernel
theorem i_Mod_keep_33 : zins 142 33 = some (.iconst 0) := by decide +kernel
theorem i_Mod_keep_34 : zins 142 34 = some (.iaload) := by decide +kernel
theorem i_Mod_keep_35 : zins 142 35 = some (.iastore) := by decide +kernel
theorem i_Mod_keep_36 : zins 142 36 = some (.iconst 0) := by decide +kernel
theorem i_Mod_keep_37 : zins 142 37 = some (.istore_n 1) := by decide +kernel
theorem i_Mod_keep_38 : zins 142 38 = some (.iload_n 1) := by decide +kernel
theorem i_Mod_keep_39 : zins 142 39 = some (.aload_n 0) := by decide +kernel
theorem i_Mod_keep_40 : zins 142 40 = some (.getfield 17) := by decide +kernel
theorem i_Mod_keep_43 : zins 142 43 = some (.iconst 0) := by decide +kernel
theorem i_Mod_keep_44 : zins 142 44 = some (.iaload) := by decide +kernel
theorem i_Mod_keep_45 : zins 142 45 = some (.if_icmp .ge 121) := by decide +kernel
theorem i_Mod_keep_48 : zins 142 48 = some (.aload_n 0) := by decide +kernel
theorem i_Mod_keep_49 : zins 142 49 = some (.getfield 23) := by decide +kernel
theorem i_Mod_keep_52 : zins 142 52 = some (.sipush 220) := by decide +kernel
theorem i_Mod_keep_55 : zins 142 55 = some (.iload_n 1) := by decide +kernel
theorem i_Mod_keep_56 : zins 142 56 = some (.iadd) := by decide +kernel
theorem i_Mod_keep_57 : zins 142 57 = some (.aload_n 0) := by decide +kernel
theorem i_Mod_keep_58 : zins 142 58 = some (.getfield 23) := by decide +kernel
theorem i_Mod_keep_61 : zins 142 61 = some (.iload_n 1) := by decide +kernel
theorem i_Mod_keep_62 : zins 142 62 = some (.iaload) := by decide +kernel
theorem i_Mod_keep_63 : zins 142 63 = some (.iastore) := by decide +kernel
theorem i_Mod_keep_64 : zins 142 64 = some (.aload_n 0) := by decide +kernel
theorem i_Mod_keep_65 : zins 142 65 = some (.getfield 26) := by decide +kernel
theorem i_Mod_keep_68 : zins 142 68 = some (.sipush 220) := by decide +kernel
theorem i_Mod_keep_71 : zins 142 71 = some (.iload_n 1) := by decide +kernel
theorem i_Mod_keep_72 : zins 142 72 = some (.iadd) := by decide +kernel
theorem i_Mod_keep_73 : zins 142 73 = some (.aload_n 0) := by decide +kernel
theorem i_Mod_keep_74 : zins 142 74 = some (.getfield 26) := by decide +kernel
theorem i_Mod_keep_77 : zins 142 77 = some (.iload_n 1) := by decide +kernel
theorem i_Mod_keep_78 : zins 142 78 = some (.iaload) := by decide +kernel
theorem i_Mod_keep_79 : zins 142 79 = some (.iastore) := by decide +kernel
theorem i_Mod_keep_80 : zins 142 80 = some (.aload_n 0) := by decide +kernel
theorem i_Mod_keep_81 : zins 142 81 = some (.getfield 29) := by decide +kernel
theorem i_Mod_keep_84 : zins 142 84 = some (.sipush 220) := by decide +kernel
theorem i_Mod_keep_87 : zins 142 87 = some (.iload_n 1) := by decide +kernel
theorem i_Mod_keep_88 : zins 142 88 = some (.iadd) := by decide +kernel
theorem i_Mod_keep_89 : zins 142 89 = some (.aload_n 0) := by decide +kernel
theorem i_Mod_keep_90 : zins 142 90 = some (.getfield 29) := by decide +kernel
theorem i_Mod_keep_93 : zins 142 93 = some (.iload_n 1) := by decide +kernel
theorem i_Mod_keep_94 : zins 142 94 = some (.iaload) := by decide +kernel
theorem i_Mod_keep_95 : zins 142 95 = some (.iastore) := by decide +kernel
theorem i_Mod_keep_96 : zins 142 96 = some (.aload_n 0) := by decide +kernel
theorem i_Mod_keep_97 : zins 142 97 = some (.getfield 32) := by decide +kernel
theorem i_Mod_keep_100 : zins 142 100 = some (.sipush 220) := by decide +kernel
theorem i_Mod_keep_103 : zins 142 103 = some (.iload_n 1) := by decide +kernel
theorem i_Mod_keep_104 : zins 142 104 = some (.iadd) := by decide +kernel
theorem i_Mod_keep_105 : zins 142 105 = some (.aload_n 0) := by decide +kernel
theorem i_Mod_keep_106 : zins 142 106 = some (.getfield 32) := by decide +kernel
theorem i_Mod_keep_109 : zins 142 109 = some (.iload_n 1) := by decide +kernel
theorem i_Mod_keep_110 : zins 142 110 = some (.iaload) := by decide +kernel
theorem i_Mod_keep_111 : zins 142 111 = some (.iastore) := by decide +kernel
theorem i_Mod_keep_112 : zins 142 112 = some (.aload_n 0) := by decide +kernel
theorem i_Mod_keep_113 : zins 142 113 = some (.getfield 35) := by decide +kernel
theorem i_Mod_keep_116 : zins 142 116 = some (.sipush 220) := by decide +kernel
theorem i_Mod_keep_119 : zins 142 119 = some (.iload_n 1) := by decide +kernel
theorem i_Mod_keep_120 : zins 142 120 = some (.iadd) := by decide +kernel
theorem i_Mod_keep_121 : zins 142 121 = some (.aload_n 0) := by decide +kernel
theorem i_Mod_keep_122 : zins 142 122 = some (.getfield 35) := by decide +kernel
theorem i_Mod_keep_125 : zins 142 125 = some (.iload_n 1) := by decide +kernel
theorem i_Mod_keep_126 : zins 142 126 = some (.iaload) := by decide +kernel
theorem i_Mod_keep_127 : zins 142 127 = some (.iastore) := by decide +kernel
theorem i_Mod_keep_128 : zins 142 128 = some (.aload_n 0) := by decide +kernel
theorem i_Mod_keep_129 : zins 142 129 = some (.getfield 38) := by decide +kernel
theorem i_Mod_keep_132 : zins 142 132 = some (.sipush 220) := by decide +kernel
theorem i_Mod_keep_135 : zins 142 135 = some (.iload_n 1) := by decide +kernel
theorem i_Mod_keep_136 : zins 142 136 = some (.iadd) := by decide +kernel
theorem i_Mod_keep_137 : zins 142 137 = some (.aload_n 0) := by decide +kernel
theorem i_Mod_keep_138 : zins 142 138 = some (.getfield 38) := by decide +kernel
theorem i_Mod_keep_141 : zins 142 141 = some (.iload_n 1) := by decide +kernel
theorem i_Mod_keep_142 : zins 142 142 = some (.iaload) := by decide +kernel
theorem i_Mod_keep_143 : zins 142 143 = some (.iastore) := by decide +kernel
theorem i_Mod_keep_144 : zins 142 144 = some (.aload_n 0) := by decide +kernel
theorem i_Mod_keep_145 : zins 142 145 = some (.getfield 41) := by decide +kernel
theorem i_Mod_keep_148 : zins 142 148 = some (.sipush 220) := by decide +kernel
theorem i_Mod_keep_151 : zins 142 151 = some (.iload_n 1) := by decide +kernel
theorem i_Mod_keep_152 : zins 142 152 = some (.iadd) := by decide +kernel
theorem i_Mod_keep_153 : zins 142 153 = some (.aload_n 0) := by decide +kernel
theorem i_Mod_keep_154 : zins 142 154 = some (.getfield 41) := by decide +kernel
theorem i_Mod_keep_157 : zins 142 157 = some (.iload_n 1) := by decide +kernel
theorem i_Mod_keep_158 : zins 142 158 = some (.iaload) := by decide +kernel
theorem i_Mod_keep_159 : zins 142 159 = some (.iastore) := by decide +kernel
theorem i_Mod_keep_160 : zins 142 160 = some (.iinc 1 1) := by decide +kernel
theorem i_Mod_keep_163 : zins 142 163 = some (.goto (-125)) := by decide +kernel
theorem i_Mod_keep_166 : zins 142 166 = some (.iconst 0) := by decide +kernel
theorem i_Mod_keep_167 : zins 142 167 = some (.istore_n 1) := by decide +kernel
theorem i_Mod_keep_168 : zins 142 168 = some (.iload_n 1) := by decide +kernel
theorem i_Mod_keep_169 : zins 142 169 = some (.aload_n 0) := by decide +kernel
theorem i_Mod_keep_170 : zins 142 170 = some (.getfield 20) := by decide +kernel
theorem i_Mod_keep_173 : zins 142 173 = some (.iconst 0) := by decide +kernel
theorem i_Mod_keep_174 : zins 142 174 = some (.iaload) := by decide +kernel
theorem i_Mod_keep_175 : zins 142 175 = some (.if_icmp .ge 25) := by decide +kernel
theorem i_Mod_keep_178 : zins 142 178 = some (.aload_n 0) := by decide +kernel
theorem i_Mod_keep_179 : zins 142 179 = some (.getfield 44) := by decide +kernel
theorem i_Mod_keep_182 : zins 142 182 = some (.sipush 200) := by decide +kernel
theorem i_Mod_keep_185 : zins 142 185 = some (.iload_n 1) := by decide +kernel
theorem i_Mod_keep_186 : zins 142 186 = some (.iadd) := by decide +kernel
theorem i_Mod_keep_187 : zins 142 187 = some (.aload_n 0) := by decide +kernel
theorem i_Mod_keep_188 : zins 142 188 = some (.getfield 44) := by decide +kernel
theorem i_Mod_keep_191 : zins 142 191 = some (.iload_n 1) := by decide +kernel
theorem i_Mod_keep_192 : zins 142 192 = some (.caload) := by decide +kernel
theorem i_Mod_keep_193 : zins 142 193 = some (.castore) := by decide +kernel
theorem i_Mod_keep_194 : zins 142 194 = some (.iinc 1 1) := by decide +kernel
theorem i_Mod_keep_197 : zins 142 197 = some (.goto (-29)) := by decide +kernel
theorem i_Mod_keep_200 : zins 142 200 = some (.iconst 0) := by decide +kernel
theorem i_Mod_keep_201 : zins 142 201 = some (.istore_n 1) := by decide +kernel
theorem i_Mod_keep_202 : zins 142 202 = some (.iload_n 1) := by decide +kernel
theorem i_Mod_keep_203 : zins 142 203 = some (.iconst 3) := by decide +kernel
theorem i_Mod_keep_204 : zins 142 204 = some (.aload_n 0) := by decide +kernel
theorem i_Mod_keep_205 : zins 142 205 = some (.getfield 13) := by decide +kernel
theorem i_Mod_keep_208 : zins 142 208 = some (.iconst 0) := by decide +kernel
theorem i_Mod_keep_209 : zins 142 209 = some (.iaload) := by decide +kernel
theorem i_Mod_keep_210 : zins 142 210 = some (.imul) := by decide +kernel
theorem i_Mod_keep_211 : zins 142 211 = some (.if_icmp .ge 25) := by decide +kernel
theorem i_Mod_keep_214 : zins 142 214 = some (.aload_n 0) := by decide +kernel
theorem i_Mod_keep_215 : zins 142 215 = some (.getfield 47) := by decide +kernel
theorem i_Mod_keep_218 : zins 142 218 = some (.sipush 600) := by decide +kernel
theorem i_Mod_keep_221 : zins 142 221 = some (.iload_n 1) := by decide +kernel
theorem i_Mod_keep_222 : zins 142 222 = some (.iadd) := by decide +kernel
theorem i_Mod_keep_223 : zins 142 223 = some (.aload_n 0) := by decide +kernel
theorem i_Mod_keep_224 : zins 142 224 = some (.getfield 47) := by decide +kernel
theorem i_Mod_keep_227 : zins 142 227 = some (.iload_n 1) := by decide +kernel
theorem i_Mod_keep_228 : zins 142 228 = some (.caload) := by decide +kernel
theorem i_Mod_keep_229 : zins 142 229 = some (.castore) := by decide +kernel
theorem i_Mod_keep_230 : zins 142 230 = some (.iinc 1 1) := by decide +kernel
theorem i_Mod_keep_233 : zins 142 233 = some (.goto (-31)) := by decide +kernel
theorem i_Mod_keep_236 : zins 142 236 = some (.return_) := by decide +kernel
def mk7 (ms : zMS) (i : Nat) : zMS := (ms.1, fun k => if 5 ≤ k ∧ k ≤ 11 then va_cpy (ms.2 k) (ms.2 k) 0 220 i else ms.2 k)
theorem mk7_0 (ms : zMS) : mk7 ms 0 = ms := by
  unfold mk7
  refine Prod.ext rfl (funext fun k => ?_)
  dsimp only
  split
  · exact zcpy_0
  · rfl
theorem zcpy_s0 {f : Nat → Int32} {b i : Nat} (h : i < b) : upd (va_cpy f f 0 b i) (b + i) (va_cpy f f 0 b i i) = va_cpy f f 0 b (i + 1) := by
  have e := zcpy_s (f := f) (a := 0) (b := b) (i := i) (Or.inl (by omega))
  rw [Nat.zero_add] at e
  exact e
theorem mk7_s (ms : zMS) (i : Nat) (hi : i < 220) : (mk7 ms (i + 1)) = ((mk7 ms i).1, va_up (va_up (va_up (va_up (va_up (va_up (va_up ((mk7 ms i).2) 5 (upd ((mk7 ms i).2 5) (220 + i) ((mk7 ms i).2 5 i))) 6 (upd ((mk7 ms i).2 6) (220 + i) ((mk7 ms i).2 6 i))) 7 (upd ((mk7 ms i).2 7) (220 + i) ((mk7 ms i).2 7 i))) 8 (upd ((mk7 ms i).2 8) (220 + i) ((mk7 ms i).2 8 i))) 9 (upd ((mk7 ms i).2 9) (220 + i) ((mk7 ms i).2 9 i))) 10 (upd ((mk7 ms i).2 10) (220 + i) ((mk7 ms i).2 10 i))) 11 (upd ((mk7 ms i).2 11) (220 + i) ((mk7 ms i).2 11 i))) := by
  unfold mk7
  refine Prod.ext rfl (funext fun k => ?_)
  dsimp only
  by_cases hk : 5 ≤ k ∧ k ≤ 11
  · rw [if_pos hk]
    rcases (show k = 5 ∨ k = 6 ∨ k = 7 ∨ k = 8 ∨ k = 9 ∨ k = 10 ∨ k = 11 by omega) with rfl | rfl | rfl | rfl | rfl | rfl | rfl
    · exact (zcpy_s0 hi).symm
    · exact (zcpy_s0 hi).symm
    · exact (zcpy_s0 hi).symm
    · exact (zcpy_s0 hi).symm
    · exact (zcpy_s0 hi).symm
    · exact (zcpy_s0 hi).symm
    · exact (zcpy_s0 hi).symm
  · rw [if_neg hk, va_up_ne _ _ (by omega), va_up_ne _ _ (by omega), va_up_ne _ _ (by omega), va_up_ne _ _ (by omega), va_up_ne _ _ (by omega), va_up_ne _ _ (by omega), va_up_ne _ _ (by omega), if_neg hk]
def mk12 (ms : zMS) (i : Nat) : zMS := (ms.1, va_up ms.2 12 (va_cpy (ms.2 12) (ms.2 12) 0 200 i))
def mk13 (ms : zMS) (i : Nat) : zMS := (ms.1, va_up ms.2 13 (va_cpy (ms.2 13) (ms.2 13) 0 600 i))
def mkeep (ms : zMS) (cnt cs sg : Nat) : zMS := mk13 (mk12 (mk7 (ms.1, va_up (va_up (va_up ms.2 2 (upd (ms.2 2) 1 (nI sg))) 3 (upd (ms.2 3) 1 (nI cnt))) 4 (upd (ms.2 4) 1 (nI cs))) cnt) cs) (3 * sg)
theorem l1_Mod_keep (X : zX) (d : Nat) (g : zH) (ms : zMS) (cnt : Nat) (h3 : ms.2 3 0 = nI cnt) (hcl : cnt ≤ 220) (u : Option Value × zH) (K : ∀ x, zR X d 142 166 [some (.ref 129), some (.int x)] [] (mset g (mk7 ms cnt)) u) : ∀ (k i : Nat), i + k = cnt → zR X d 142 38 [some (.ref 129), some (.int (nI i))] [] (mset g (mk7 ms i)) u := by
  intro k
  induction k with
  | zero =>
    intro i hik
    have hi : cnt = i := by omega
    subst hi
    refine zr_iload_n i_Mod_keep_38 rfl ?_
    refine zr_aload_n i_Mod_keep_39 rfl ?_
    refine zr_getf i_Mod_keep_40 rfl rfl rfl ?_
    refine zn_iconst 0 i_Mod_keep_43 (by decide) ?_
    refine zn_iaload i_Mod_keep_44 rfl (by omega) (by decide) ?_
    refine zr_top (y := nI cnt) h3 ?_
    refine zn_icmp_ge 166 i_Mod_keep_45 (by decide) (by omega) (by omega) (fun c_45 => ?_) (fun q => absurd q (by first | assumption | omega | simp_all))
    exact K _
  | succ k ih =>
    intro i hik
    refine zr_iload_n i_Mod_keep_38 rfl ?_
    refine zr_aload_n i_Mod_keep_39 rfl ?_
    refine zr_getf i_Mod_keep_40 rfl rfl rfl ?_
    refine zn_iconst 0 i_Mod_keep_43 (by decide) ?_
    refine zn_iaload i_Mod_keep_44 rfl (by omega) (by decide) ?_
    refine zr_top (y := nI cnt) h3 ?_
    refine zn_icmp_ge 166 i_Mod_keep_45 (by decide) (by omega) (by omega) (fun q => absurd q (by first | assumption | omega | simp_all)) (fun c_45 => ?_)
    refine zr_aload_n i_Mod_keep_48 rfl ?_
    refine zr_getf i_Mod_keep_49 rfl rfl rfl ?_
    refine zn_sipush 220 i_Mod_keep_52 (by decide) ?_
    refine zr_iload_n i_Mod_keep_55 rfl ?_
    refine zn_iadd i_Mod_keep_56 ?_
    refine zr_aload_n i_Mod_keep_57 rfl ?_
    refine zr_getf i_Mod_keep_58 rfl rfl rfl ?_
    refine zr_iload_n i_Mod_keep_61 rfl ?_
    refine zn_iaload i_Mod_keep_62 rfl (by omega) (by decide) ?_
    refine mn_iastore 5 440 i_Mod_keep_63 (fun _ => rfl) (by decide) (by omega) (by decide) ?_
    refine zr_aload_n i_Mod_keep_64 rfl ?_
    refine zr_getf i_Mod_keep_65 rfl rfl rfl ?_
    refine zn_sipush 220 i_Mod_keep_68 (by decide) ?_
    refine zr_iload_n i_Mod_keep_71 rfl ?_
    refine zn_iadd i_Mod_keep_72 ?_
    refine zr_aload_n i_Mod_keep_73 rfl ?_
    refine zr_getf i_Mod_keep_74 rfl rfl rfl ?_
    refine zr_iload_n i_Mod_keep_77 rfl ?_
    refine zn_iaload i_Mod_keep_78 rfl (by omega) (by decide) ?_
    refine mn_iastore 6 440 i_Mod_keep_79 (fun _ => rfl) (by decide) (by omega) (by decide) ?_
    refine zr_aload_n i_Mod_keep_80 rfl ?_
    refine zr_getf i_Mod_keep_81 rfl rfl rfl ?_
    refine zn_sipush 220 i_Mod_keep_84 (by decide) ?_
    refine zr_iload_n i_Mod_keep_87 rfl ?_
    refine zn_iadd i_Mod_keep_88 ?_
    refine zr_aload_n i_Mod_keep_89 rfl ?_
    refine zr_getf i_Mod_keep_90 rfl rfl rfl ?_
    refine zr_iload_n i_Mod_keep_93 rfl ?_
    refine zn_iaload i_Mod_keep_94 rfl (by omega) (by decide) ?_
    refine mn_iastore 7 440 i_Mod_keep_95 (fun _ => rfl) (by decide) (by omega) (by decide) ?_
    refine zr_aload_n i_Mod_keep_96 rfl ?_
    refine zr_getf i_Mod_keep_97 rfl rfl rfl ?_
    refine zn_sipush 220 i_Mod_keep_100 (by decide) ?_
    refine zr_iload_n i_Mod_keep_103 rfl ?_
    refine zn_iadd i_Mod_keep_104 ?_
    refine zr_aload_n i_Mod_keep_105 rfl ?_
    refine zr_getf i_Mod_keep_106 rfl rfl rfl ?_
    refine zr_iload_n i_Mod_keep_109 rfl ?_
    refine zn_iaload i_Mod_keep_110 rfl (by omega) (by decide) ?_
    refine mn_iastore 8 440 i_Mod_keep_111 (fun _ => rfl) (by decide) (by omega) (by decide) ?_
    refine zr_aload_n i_Mod_keep_112 rfl ?_
    refine zr_getf i_Mod_keep_113 rfl rfl rfl ?_
    refine zn_sipush 220 i_Mod_keep_116 (by decide) ?_
    refine zr_iload_n i_Mod_keep_119 rfl ?_
    refine zn_iadd i_Mod_keep_120 ?_
    refine zr_aload_n i_Mod_keep_121 rfl ?_
    refine zr_getf i_Mod_keep_122 rfl rfl rfl ?_
    refine zr_iload_n i_Mod_keep_125 rfl ?_
    refine zn_iaload i_Mod_keep_126 rfl (by omega) (by decide) ?_
    refine mn_iastore 9 440 i_Mod_keep_127 (fun _ => rfl) (by decide) (by omega) (by decide) ?_
    refine zr_aload_n i_Mod_keep_128 rfl ?_
    refine zr_getf i_Mod_keep_129 rfl rfl rfl ?_
    refine zn_sipush 220 i_Mod_keep_132 (by decide) ?_
    refine zr_iload_n i_Mod_keep_135 rfl ?_
    refine zn_iadd i_Mod_keep_136 ?_
    refine zr_aload_n i_Mod_keep_137 rfl ?_
    refine zr_getf i_Mod_keep_138 rfl rfl rfl ?_
    refine zr_iload_n i_Mod_keep_141 rfl ?_
    refine zn_iaload i_Mod_keep_142 rfl (by omega) (by decide) ?_
    refine mn_iastore 10 440 i_Mod_keep_143 (fun _ => rfl) (by decide) (by omega) (by decide) ?_
    refine zr_aload_n i_Mod_keep_144 rfl ?_
    refine zr_getf i_Mod_keep_145 rfl rfl rfl ?_
    refine zn_sipush 220 i_Mod_keep_148 (by decide) ?_
    refine zr_iload_n i_Mod_keep_151 rfl ?_
    refine zn_iadd i_Mod_keep_152 ?_
    refine zr_aload_n i_Mod_keep_153 rfl ?_
    refine zr_getf i_Mod_keep_154 rfl rfl rfl ?_
    refine zr_iload_n i_Mod_keep_157 rfl ?_
    refine zn_iaload i_Mod_keep_158 rfl (by omega) (by decide) ?_
    refine mn_iastore 11 440 i_Mod_keep_159 (fun _ => rfl) (by decide) (by omega) (by decide) ?_
    refine zn_iinc i_Mod_keep_160 rfl rfl ?_
    refine zr_goto 38 i_Mod_keep_163 (by decide) ?_
    (have e := ih (i + 1) (by omega)
     rw [mk7_s ms i (by omega)] at e
     exact e)
theorem l2_Mod_keep (X : zX) (d : Nat) (g : zH) (ms : zMS) (cs : Nat) (h4 : ms.2 4 0 = nI cs) (hcl : cs ≤ 200) (hC : ∀ j i, i < cs → j ≤ cs → zch ((mk12 ms j).2 12 i)) (u : Option Value × zH) (K : ∀ x, zR X d 142 200 [some (.ref 129), some (.int x)] [] (mset g (mk12 ms cs)) u) : ∀ (k i : Nat), i + k = cs → zR X d 142 168 [some (.ref 129), some (.int (nI i))] [] (mset g (mk12 ms i)) u := by
  intro k
  induction k with
  | zero =>
    intro i hik
    have hi : cs = i := by omega
    subst hi
    refine zr_iload_n i_Mod_keep_168 rfl ?_
    refine zr_aload_n i_Mod_keep_169 rfl ?_
    refine zr_getf i_Mod_keep_170 rfl rfl rfl ?_
    refine zn_iconst 0 i_Mod_keep_173 (by decide) ?_
    refine zn_iaload i_Mod_keep_174 rfl (by omega) (by decide) ?_
    refine zr_top (y := nI cs) h4 ?_
    refine zn_icmp_ge 200 i_Mod_keep_175 (by decide) (by omega) (by omega) (fun c_175 => ?_) (fun q => absurd q (by first | assumption | omega | simp_all))
    exact K _
  | succ k ih =>
    intro i hik
    refine zr_iload_n i_Mod_keep_168 rfl ?_
    refine zr_aload_n i_Mod_keep_169 rfl ?_
    refine zr_getf i_Mod_keep_170 rfl rfl rfl ?_
    refine zn_iconst 0 i_Mod_keep_173 (by decide) ?_
    refine zn_iaload i_Mod_keep_174 rfl (by omega) (by decide) ?_
    refine zr_top (y := nI cs) h4 ?_
    refine zn_icmp_ge 200 i_Mod_keep_175 (by decide) (by omega) (by omega) (fun q => absurd q (by first | assumption | omega | simp_all)) (fun c_175 => ?_)
    refine zr_aload_n i_Mod_keep_178 rfl ?_
    refine zr_getf i_Mod_keep_179 rfl rfl rfl ?_
    refine zn_sipush 200 i_Mod_keep_182 (by decide) ?_
    refine zr_iload_n i_Mod_keep_185 rfl ?_
    refine zn_iadd i_Mod_keep_186 ?_
    refine zr_aload_n i_Mod_keep_187 rfl ?_
    refine zr_getf i_Mod_keep_188 rfl rfl rfl ?_
    refine zr_iload_n i_Mod_keep_191 rfl ?_
    refine zn_caload i_Mod_keep_192 rfl (by omega) (by decide) ?_
    refine mn_castore 12 400 i_Mod_keep_193 (fun _ => rfl) (by decide) (by omega) (by decide) ?_
    refine zn_iinc i_Mod_keep_194 rfl rfl ?_
    refine zr_goto 168 i_Mod_keep_197 (by decide) ?_
    (have e := ih (i + 1) (by omega)
     rw [show mk12 ms (i + 1) = ((mk12 ms i).1, va_up (mk12 ms i).2 12 (upd ((mk12 ms i).2 12) (200 + i) (vp_nar .char ((mk12 ms i).2 12 i)))) by
      rw [show vp_nar .char ((mk12 ms i).2 12 i) = (mk12 ms i).2 12 i from hC _ i (by omega) (by omega)]
      unfold mk12
      dsimp only
      rw [up_same]
      show _ = (ms.1, va_up ms.2 12 (upd (va_cpy (ms.2 12) (ms.2 12) 0 200 i) (200 + i) (va_cpy (ms.2 12) (ms.2 12) 0 200 i i)))
      rw [zcpy_s0 (by omega)]] at e
     exact e)
theorem l3_Mod_keep (X : zX) (d : Nat) (g : zH) (ms : zMS) (sg : Nat) (h2 : ms.2 2 0 = nI sg) (hcl : sg ≤ 200) (hC : ∀ j i, i < 3 * sg → j ≤ 3 * sg → zch ((mk13 ms j).2 13 i)) (u : Option Value × zH) (K : ∀ x, zR X d 142 236 [some (.ref 129), some (.int x)] [] (mset g (mk13 ms (3 * sg))) u) : ∀ (k i : Nat), i + k = 3 * sg → zR X d 142 202 [some (.ref 129), some (.int (nI i))] [] (mset g (mk13 ms i)) u := by
  intro k
  induction k with
  | zero =>
    intro i hik
    have hi : 3 * sg = i := by omega
    subst hi
    refine zr_iload_n i_Mod_keep_202 rfl ?_
    refine zn_iconst 3 i_Mod_keep_203 (by decide) ?_
    refine zr_aload_n i_Mod_keep_204 rfl ?_
    refine zr_getf i_Mod_keep_205 rfl rfl rfl ?_
    refine zn_iconst 0 i_Mod_keep_208 (by decide) ?_
    refine zn_iaload i_Mod_keep_209 rfl (by omega) (by decide) ?_
    refine zr_top (y := nI sg) h2 ?_
    refine zn_imul i_Mod_keep_210 ?_
    refine zn_icmp_ge 236 i_Mod_keep_211 (by decide) (by omega) (by omega) (fun c_211 => ?_) (fun q => absurd q (by first | assumption | omega | simp_all))
    exact K _
  | succ k ih =>
    intro i hik
    refine zr_iload_n i_Mod_keep_202 rfl ?_
    refine zn_iconst 3 i_Mod_keep_203 (by decide) ?_
    refine zr_aload_n i_Mod_keep_204 rfl ?_
    refine zr_getf i_Mod_keep_205 rfl rfl rfl ?_
    refine zn_iconst 0 i_Mod_keep_208 (by decide) ?_
    refine zn_iaload i_Mod_keep_209 rfl (by omega) (by decide) ?_
    refine zr_top (y := nI sg) h2 ?_
    refine zn_imul i_Mod_keep_210 ?_
    refine zn_icmp_ge 236 i_Mod_keep_211 (by decide) (by omega) (by omega) (fun q => absurd q (by first | assumption | omega | simp_all)) (fun c_211 => ?_)
    refine zr_aload_n i_Mod_keep_214 rfl ?_
    refine zr_getf i_Mod_keep_215 rfl rfl rfl ?_
    refine zn_sipush 600 i_Mod_keep_218 (by decide) ?_
    refine zr_iload_n i_Mod_keep_221 rfl ?_
    refine zn_iadd i_Mod_keep_222 ?_
    refine zr_aload_n i_Mod_keep_223 rfl ?_
    refine zr_getf i_Mod_keep_224 rfl rfl rfl ?_
    refine zr_iload_n i_Mod_keep_227 rfl ?_
    refine zn_caload i_Mod_keep_228 rfl (by omega) (by decide) ?_
    refine mn_castore 13 1200 i_Mod_keep_229 (fun _ => rfl) (by decide) (by omega) (by decide) ?_
    refine zn_iinc i_Mod_keep_230 rfl rfl ?_
    refine zr_goto 202 i_Mod_keep_233 (by decide) ?_
    (have e := ih (i + 1) (by omega)
     rw [show mk13 ms (i + 1) = ((mk13 ms i).1, va_up (mk13 ms i).2 13 (upd ((mk13 ms i).2 13) (600 + i) (vp_nar .char ((mk13 ms i).2 13 i)))) by
      rw [show vp_nar .char ((mk13 ms i).2 13 i) = (mk13 ms i).2 13 i from hC _ i (by omega) (by omega)]
      unfold mk13
      dsimp only
      rw [up_same]
      show _ = (ms.1, va_up ms.2 13 (upd (va_cpy (ms.2 13) (ms.2 13) 0 600 i) (600 + i) (va_cpy (ms.2 13) (ms.2 13) 0 600 i i)))
      rw [zcpy_s0 (by omega)]] at e
     exact e)
theorem mk12_0 (ms : zMS) : mk12 ms 0 = ms := by unfold mk12; rw [zcpy_0, up_self]
theorem mk13_0 (ms : zMS) : mk13 ms 0 = ms := by unfold mk13; rw [zcpy_0, up_self]
theorem e_Mod_keep (X : zX) (d : Nat) (g : zH) (ms : zMS) (cnt cs sg : Nat) (h3 : ms.2 3 0 = nI cnt) (hcl : cnt ≤ 220) (h4 : ms.2 4 0 = nI cs) (hcs : cs ≤ 200) (h2 : ms.2 2 0 = nI sg) (hsg : sg ≤ 200) (hC12 : ∀ i, i < cs → zch (ms.2 12 i)) (hC13 : ∀ i, i < 3 * sg → zch (ms.2 13 i)) : zR X d 142 0 (zent 2 [.ref 129]) [] (mset g ms) (none, mset g (mkeep ms cnt cs sg)) := by
  have key : zR X d 142 38 [some (.ref 129), some (.int (nI 0))] [] (mset g (mk7 (ms.1, va_up (va_up (va_up ms.2 2 (upd (ms.2 2) 1 (nI sg))) 3 (upd (ms.2 3) 1 (nI cnt))) 4 (upd (ms.2 4) 1 (nI cs))) 0)) (none, mset g (mkeep ms cnt cs sg)) := by
    refine l1_Mod_keep X d g (ms.1, va_up (va_up (va_up ms.2 2 (upd (ms.2 2) 1 (nI sg))) 3 (upd (ms.2 3) 1 (nI cnt))) 4 (upd (ms.2 4) 1 (nI cs))) cnt h3 hcl _ (fun x => ?_) cnt 0 (by omega)
    refine zn_iconst 0 i_Mod_keep_166 (by decide) ?_
    refine zr_istore_n i_Mod_keep_167 rfl ?_
    skip
    have e := l2_Mod_keep X d g (mk7 (ms.1, va_up (va_up (va_up ms.2 2 (upd (ms.2 2) 1 (nI sg))) 3 (upd (ms.2 3) 1 (nI cnt))) 4 (upd (ms.2 4) 1 (nI cs))) cnt) cs h4 hcs (fun j i h5 h6 => by
      show zch (va_cpy (ms.2 12) (ms.2 12) 0 200 j i)
      rw [pk_cpy_out (by omega)]
      exact hC12 i h5) (none, mset g (mkeep ms cnt cs sg)) (fun x => ?_) cs 0 (by omega)
    · rw [mk12_0] at e
      exact e
    refine zn_iconst 0 i_Mod_keep_200 (by decide) ?_
    refine zr_istore_n i_Mod_keep_201 rfl ?_
    skip
    have e := l3_Mod_keep X d g (mk12 (mk7 (ms.1, va_up (va_up (va_up ms.2 2 (upd (ms.2 2) 1 (nI sg))) 3 (upd (ms.2 3) 1 (nI cnt))) 4 (upd (ms.2 4) 1 (nI cs))) cnt) cs) sg h2 hsg (fun j i h5 h6 => by
      show zch (va_cpy (ms.2 13) (ms.2 13) 0 600 j i)
      rw [pk_cpy_out (by omega)]
      exact hC13 i h5) (none, mset g (mkeep ms cnt cs sg)) (fun x => ?_) (3 * sg) 0 (by omega)
    · rw [mk13_0] at e
      exact e
    exact zR.retE i_Mod_keep_236 rfl rfl
  rw [mk7_0] at key
  refine zr_aload_n i_Mod_keep_0 rfl ?_
  refine zr_getf i_Mod_keep_1 rfl rfl rfl ?_
  refine zn_iconst 1 i_Mod_keep_4 (by decide) ?_
  refine zr_aload_n i_Mod_keep_5 rfl ?_
  refine zr_getf i_Mod_keep_6 rfl rfl rfl ?_
  refine zn_iconst 0 i_Mod_keep_9 (by decide) ?_
  refine zn_iaload i_Mod_keep_10 rfl (by omega) (by decide) ?_
  refine zr_top (y := nI sg) h2 ?_
  refine mn_iastore 2 2 i_Mod_keep_11 (fun _ => rfl) (by decide) (by omega) (by decide) ?_
  refine zr_aload_n i_Mod_keep_12 rfl ?_
  refine zr_getf i_Mod_keep_13 rfl rfl rfl ?_
  refine zn_iconst 1 i_Mod_keep_16 (by decide) ?_
  refine zr_aload_n i_Mod_keep_17 rfl ?_
  refine zr_getf i_Mod_keep_18 rfl rfl rfl ?_
  refine zn_iconst 0 i_Mod_keep_21 (by decide) ?_
  refine zn_iaload i_Mod_keep_22 rfl (by omega) (by decide) ?_
  refine zr_top (y := nI cnt) h3 ?_
  refine mn_iastore 3 2 i_Mod_keep_23 (fun _ => rfl) (by decide) (by omega) (by decide) ?_
  refine zr_aload_n i_Mod_keep_24 rfl ?_
  refine zr_getf i_Mod_keep_25 rfl rfl rfl ?_
  refine zn_iconst 1 i_Mod_keep_28 (by decide) ?_
  refine zr_aload_n i_Mod_keep_29 rfl ?_
  refine zr_getf i_Mod_keep_30 rfl rfl rfl ?_
  refine zn_iconst 0 i_Mod_keep_33 (by decide) ?_
  refine zn_iaload i_Mod_keep_34 rfl (by omega) (by decide) ?_
  refine zr_top (y := nI cs) h4 ?_
  refine mn_iastore 4 2 i_Mod_keep_35 (fun _ => rfl) (by decide) (by omega) (by decide) ?_
  refine zn_iconst 0 i_Mod_keep_36 (by decide) ?_
  refine zr_istore_n i_Mod_keep_37 rfl ?_
  exact key
end
section
/-! THE REFERENCE: messages seen before -/
def sameL (f : Nat → Int32) (t : zT) (k i m : Nat) (s : Bool) : Bool := match m with
  | 0 => s
  | m + 1 => sameL f t k (i + 1) m (s && decide (f (6 * k + i) = tc t i))
def same6 (f : Nat → Int32) (t : zT) (k : Nat) : Bool := sameL f t k 0 6 true
theorem i_Mod_seen_0 : zins 118 0 = some (.aload_n 0) := by decide +kernel
theorem i_Mod_seen_1 : zins 118 1 = some (.iconst 0) := by decide +kernel
theorem i_Mod_seen_2 : zins 118 2 = some (.iconst 1) := by decide +kernel
theorem i_Mod_seen_3 : zins 118 3 = some (.iconst 2) := by decide +kernel
theorem i_Mod_seen_4 : zins 118 4 = some (.iconst 1) := by decide +kernel
theorem i_Mod_seen_5 : zins 118 5 = some (.iconst 1) := by decide +kernel
theorem i_Mod_seen_6 : zins 118 6 = some (.invokevirtual 153) := by decide +kernel
theorem i_Mod_seen_9 : zins 118 9 = some (.istore_n 1) := by decide +kernel
theorem i_Mod_seen_10 : zins 118 10 = some (.iconst 0) := by decide +kernel
theorem i_Mod_seen_11 : zins 118 11 = some (.istore_n 2) := by decide +kernel
theorem i_Mod_seen_12 : zins 118 12 = some (.iload_n 2) := by decide +kernel
theorem i_Mod_seen_13 : zins 118 13 = some (.aload_n 0) := by decide +kernel
theorem i_Mod_seen_14 : zins 118 14 = some (.getfield 221) := by decide +kernel
theorem i_Mod_seen_17 : zins 118 17 = some (.if_icmp .ge 65) := by decide +kernel
theorem i_Mod_seen_20 : zins 118 20 = some (.iconst 1) := by decide +kernel
theorem i_Mod_seen_21 : zins 118 21 = some (.istore_n 3) := by decide +kernel
theorem i_Mod_seen_22 : zins 118 22 = some (.iconst 0) := by decide +kernel
theorem i_Mod_seen_23 : zins 118 23 = some (.istore 4) := by decide +kernel
theorem i_Mod_seen_25 : zins 118 25 = some (.iload 4) := by decide +kernel
theorem i_Mod_seen_27 : zins 118 27 = some (.bipush 6) := by decide +kernel
theorem i_Mod_seen_29 : zins 118 29 = some (.if_icmp .ge 41) := by decide +kernel
theorem i_Mod_seen_32 : zins 118 32 = some (.iload_n 3) := by decide +kernel
theorem i_Mod_seen_33 : zins 118 33 = some (.ifCond .eq 29) := by decide +kernel
theorem i_Mod_seen_36 : zins 118 36 = some (.aload_n 0) := by decide +kernel
theorem i_Mod_seen_37 : zins 118 37 = some (.getfield 56) := by decide +kernel
theorem i_Mod_seen_40 : zins 118 40 = some (.bipush 6) := by decide +kernel
theorem i_Mod_seen_42 : zins 118 42 = some (.iload_n 2) := by decide +kernel
theorem i_Mod_seen_43 : zins 118 43 = some (.imul) := by decide +kernel
theorem i_Mod_seen_44 : zins 118 44 = some (.iload 4) := by decide +kernel
theorem i_Mod_seen_46 : zins 118 46 = some (.iadd) := by decide +kernel
theorem i_Mod_seen_47 : zins 118 47 = some (.caload) := by decide +kernel
theorem i_Mod_seen_48 : zins 118 48 = some (.aload_n 0) := by decide +kernel
theorem i_Mod_seen_49 : zins 118 49 = some (.iload_n 1) := by decide +kernel
theorem i_Mod_seen_50 : zins 118 50 = some (.iload 4) := by decide +kernel
theorem i_Mod_seen_52 : zins 118 52 = some (.invokevirtual 149) := by decide +kernel
theorem i_Mod_seen_55 : zins 118 55 = some (.if_icmp .ne 7) := by decide +kernel
theorem i_Mod_seen_58 : zins 118 58 = some (.iconst 1) := by decide +kernel
theorem i_Mod_seen_59 : zins 118 59 = some (.goto 4) := by decide +kernel
theorem i_Mod_seen_62 : zins 118 62 = some (.iconst 0) := by decide +kernel
theorem i_Mod_seen_63 : zins 118 63 = some (.istore_n 3) := by decide +kernel
theorem i_Mod_seen_64 : zins 118 64 = some (.iinc 4 1) := by decide +kernel
theorem i_Mod_seen_67 : zins 118 67 = some (.goto (-42)) := by decide +kernel
theorem i_Mod_seen_70 : zins 118 70 = some (.iload_n 3) := by decide +kernel
theorem i_Mod_seen_71 : zins 118 71 = some (.ifCond .eq 5) := by decide +kernel
theorem i_Mod_seen_74 : zins 118 74 = some (.iload_n 2) := by decide +kernel
theorem i_Mod_seen_75 : zins 118 75 = some (.ireturn) := by decide +kernel
theorem i_Mod_seen_76 : zins 118 76 = some (.iinc 2 1) := by decide +kernel
theorem i_Mod_seen_79 : zins 118 79 = some (.goto (-67)) := by decide +kernel
theorem i_Mod_seen_82 : zins 118 82 = some (.iconst (-1)) := by decide +kernel
theorem i_Mod_seen_83 : zins 118 83 = some (.ireturn) := by decide +kernel
theorem i_Mod_seen_loop (X : zX) (d : Nat) (g : zH) (ms : zMS) (cnt : Nat) (hT : mTV ms 0 cnt) (u : Option Value × zH) (k : Nat) (hk : k < 16) : ∀ (m i : Nat) (s : Bool), i + m = 6 → (∀ x, zR X (d + 2) 118 70 [some (.ref 129), some (.int (tI (mfind ms 0 1 2 1 1))), some (.int (nI k)), some (.int (zb (sameL (ms.2 16) (mV ms 1 2 1 1) k i m s))), some (.int (nI x))] [] (mset g ms) u) → zR X (d + 2) 118 25 [some (.ref 129), some (.int (tI (mfind ms 0 1 2 1 1))), some (.int (nI k)), some (.int (zb s)), some (.int (nI i))] [] (mset g ms) u := by
  intro m
  induction m with
  | zero =>
    intro i s hik K
    refine zr_iload i_Mod_seen_25 rfl ?_
    refine zn_bipush 6 i_Mod_seen_27 (by decide) ?_
    refine zn_icmp_ge 70 i_Mod_seen_29 (by decide) (by omega) (by omega) (fun c_29 => ?_) (fun q => absurd q (by first | assumption | omega | simp_all))
    exact K _
  | succ m ih =>
    intro i s hik K
    refine zr_iload i_Mod_seen_25 rfl ?_
    refine zn_bipush 6 i_Mod_seen_27 (by decide) ?_
    refine zn_icmp_ge 70 i_Mod_seen_29 (by decide) (by omega) (by omega) (fun q => absurd q (by first | assumption | omega | simp_all)) (fun c_29 => ?_)
    refine zr_iload_n i_Mod_seen_32 rfl ?_
    refine zB_if_eq 62 i_Mod_seen_33 (by decide) (fun c_33 => ?_) (fun c_33 => ?_)
    · skip
      refine zr_iconst i_Mod_seen_62 (v := 0) (by decide) ?_
      refine zr_istore_n i_Mod_seen_63 rfl ?_
      refine zn_iinc i_Mod_seen_64 rfl rfl ?_
      refine zr_goto 25 i_Mod_seen_67 (by decide) ?_
      (rw [sameL] at K; have e : (s && decide (ms.2 16 (6 * k + i) = tc (mV ms 1 2 1 1) i)) = false := by simp [mV, *]
       rw [e] at K; exact ih (i + 1) false (by omega) K)
    · skip
      refine zr_aload_n i_Mod_seen_36 rfl ?_
      refine zr_getf i_Mod_seen_37 rfl rfl rfl ?_
      refine zn_bipush 6 i_Mod_seen_40 (by decide) ?_
      refine zr_iload_n i_Mod_seen_42 rfl ?_
      refine zn_imul i_Mod_seen_43 ?_
      refine zr_iload i_Mod_seen_44 rfl ?_
      refine zn_iadd i_Mod_seen_46 ?_
      refine zn_caload i_Mod_seen_47 rfl (by omega) (by decide) ?_
      refine zr_aload_n i_Mod_seen_48 rfl ?_
      refine zr_iload_n i_Mod_seen_49 rfl ?_
      refine zr_iload i_Mod_seen_50 rfl ?_
      refine zr_cv2 i_Mod_seen_52 rfl (by decide) rfl (Nat.le_of_ble_eq_true rfl) (Nat.le_of_ble_eq_true rfl) (v_charOf X _ g ms _ (mto_find hT _ _ _ _) _ (by first | decide | omega)) ?_
      refine zr_icmp_ne 62 i_Mod_seen_55 (by decide) (fun c_55 => ?_) (fun c_55 => ?_)
      · skip
        refine zr_iconst i_Mod_seen_62 (v := 0) (by decide) ?_
        refine zr_istore_n i_Mod_seen_63 rfl ?_
        refine zn_iinc i_Mod_seen_64 rfl rfl ?_
        refine zr_goto 25 i_Mod_seen_67 (by decide) ?_
        (rw [sameL] at K; have e : (s && decide (ms.2 16 (6 * k + i) = tc (mV ms 1 2 1 1) i)) = false := by simp [mV, *]
         rw [e] at K; exact ih (i + 1) false (by omega) K)
      · skip
        refine zr_iconst i_Mod_seen_58 (v := 1) (by decide) ?_
        refine zr_goto 63 i_Mod_seen_59 (by decide) ?_
        refine zr_istore_n i_Mod_seen_63 rfl ?_
        refine zn_iinc i_Mod_seen_64 rfl rfl ?_
        refine zr_goto 25 i_Mod_seen_67 (by decide) ?_
        (rw [sameL] at K; have e : (s && decide (ms.2 16 (6 * k + i) = tc (mV ms 1 2 1 1) i)) = true := by simp [mV, *]
         rw [e] at K; exact ih (i + 1) true (by omega) K)
theorem l_Mod_seen (X : zX) (d : Nat) (g : zH) (ms : zMS) (cnt : Nat) (hT : mTV ms 0 cnt) (kp : Nat) (hk : ms.1 6 = nI kp) (hkl : kp ≤ 16) : ∀ (m k : Nat) (x3 x4 : Option Value), k + m = kp → zR X (d + 2) 118 12 [some (.ref 129), some (.int (tI (mfind ms 0 1 2 1 1))), some (.int (nI k)), x3, x4] [] (mset g ms) (some (.int (tI (zfst (same6 (ms.2 16) (mV ms 1 2 1 1)) k m))), mset g ms) := by
  intro m
  induction m with
  | zero =>
    intro k x3 x4 hik
    refine zr_iload_n i_Mod_seen_12 rfl ?_
    refine zr_aload_n i_Mod_seen_13 rfl ?_
    refine zr_getf i_Mod_seen_14 rfl rfl rfl ?_
    refine zr_top (y := nI kp) hk ?_
    refine zn_icmp_ge 82 i_Mod_seen_17 (by decide) (by omega) (by omega) (fun c_17 => ?_) (fun q => absurd q (by first | assumption | omega | simp_all))
    refine zr_iconst i_Mod_seen_82 (v := (-1)) (by decide) ?_
    exact zR.retE i_Mod_seen_83 rfl rfl
  | succ m ih =>
    intro k x3 x4 hik
    refine zr_iload_n i_Mod_seen_12 rfl ?_
    refine zr_aload_n i_Mod_seen_13 rfl ?_
    refine zr_getf i_Mod_seen_14 rfl rfl rfl ?_
    refine zr_top (y := nI kp) hk ?_
    refine zn_icmp_ge 82 i_Mod_seen_17 (by decide) (by omega) (by omega) (fun q => absurd q (by first | assumption | omega | simp_all)) (fun c_17 => ?_)
    refine zr_iconst i_Mod_seen_20 (v := 1) (by decide) ?_
    refine zr_istore_n i_Mod_seen_21 rfl ?_
    refine zn_iconst 0 i_Mod_seen_22 (by decide) ?_
    refine zr_istore i_Mod_seen_23 rfl ?_
    refine i_Mod_seen_loop X d g ms cnt hT _ k (by omega) 6 0 true rfl (fun x => ?_)
    refine zr_iload_n i_Mod_seen_70 rfl ?_
    refine zB_if_eq 76 i_Mod_seen_71 (by decide) (fun c_71 => ?_) (fun c_71 => ?_)
    · skip
      refine zn_iinc i_Mod_seen_76 rfl rfl ?_
      refine zr_goto 12 i_Mod_seen_79 (by decide) ?_
      (rw [zfst, if_neg (by simp [same6, *])]; exact ih (k + 1) _ _ (by omega))
    · skip
      refine zr_iload_n i_Mod_seen_74 rfl ?_
      exact zR.retE i_Mod_seen_75 rfl (by rw [zfst, if_pos (by simp [same6, *])]; rfl)
theorem e_Mod_seen (X : zX) (d : Nat) (g : zH) (ms : zMS) (cnt : Nat) (hT : mTV ms 0 cnt) (kp : Nat) (hk : ms.1 6 = nI kp) (hkl : kp ≤ 16) : zR X (d + 2) 118 0 (zent 5 [.ref 129]) [] (mset g ms) (some (.int (tI (zfst (same6 (ms.2 16) (mV ms 1 2 1 1)) 0 kp))), mset g ms) := by
  refine zr_aload_n i_Mod_seen_0 rfl ?_
  refine zn_iconst 0 i_Mod_seen_1 (by decide) ?_
  refine zr_iconst i_Mod_seen_2 (v := 1) (by decide) ?_
  refine zr_iconst i_Mod_seen_3 (v := 2) (by decide) ?_
  refine zr_iconst i_Mod_seen_4 (v := 1) (by decide) ?_
  refine zr_iconst i_Mod_seen_5 (v := 1) (by decide) ?_
  refine zr_cv5 i_Mod_seen_6 rfl (by decide) rfl (Nat.le_of_ble_eq_true rfl) (Nat.le_of_ble_eq_true rfl) (e_Mod_find X _ g ms 0 cnt _ _ _ _ (by decide) hT.1 hT.2.1) ?_
  refine zr_istore_n i_Mod_seen_9 rfl ?_
  refine zn_iconst 0 i_Mod_seen_10 (by decide) ?_
  refine zr_istore_n i_Mod_seen_11 rfl ?_
  exact l_Mod_seen X d g ms cnt hT kp hk hkl kp 0 none none (by omega)
theorem zcpy_f {f : Nat → Int32} {a b i : Nat} (h : b ≤ a) : upd (va_cpy f f a b i) (b + i) (va_cpy f f a b i (a + i)) = va_cpy f f a b (i + 1) := by
  funext j
  have e : va_cpy f f a b i (a + i) = f (a + i) := pk_cpy_out (by omega)
  rw [e]
  by_cases h1 : j = b + i
  · subst h1
    rw [pk_us, pk_cpy_in (by omega) (by omega)]
    congr 1
    omega
  · rw [pk_un h1]
    by_cases h2 : b ≤ j ∧ j < b + i
    · rw [pk_cpy_in h2.1 h2.2, pk_cpy_in h2.1 (by omega)]
    · rw [pk_cpy_out (by omega), pk_cpy_out (by omega)]
def mkn (ms : zMS) (kp : Nat) (a b : Nat → Int32) : zMS := (va_up ms.1 6 (nI kp), va_up (va_up ms.2 16 a) 17 b)
theorem mkn_self {ms : zMS} {kp : Nat} (h : ms.1 6 = nI kp) : mkn ms kp (ms.2 16) (ms.2 17) = ms := by
  unfold mkn
  rw [← h, up_self, up_self, up_self (f := ms.2) (i := 17)]
theorem mkn_16 (ms : zMS) (kp : Nat) (a b a' : Nat → Int32) : ((mkn ms kp a b).1, va_up (mkn ms kp a b).2 16 a') = mkn ms kp a' b := by
  unfold mkn
  dsimp only
  rw [up_comm (i := 17) (j := 16) (by decide), up_same]
theorem mkn_17 (ms : zMS) (kp : Nat) (a b b' : Nat → Int32) : ((mkn ms kp a b).1, va_up (mkn ms kp a b).2 17 b') = mkn ms kp a b' := by
  unfold mkn
  dsimp only
  rw [up_same]
theorem mkn_k (ms : zMS) (kp kp' : Nat) (a b : Nat → Int32) : (va_up (mkn ms kp a b).1 6 (nI kp'), (mkn ms kp a b).2) = mkn ms kp' a b := by
  unfold mkn
  dsimp only
  rw [up_same]
/-- the last sixteen identities and their reasons, after a further one -/
def remF (ms : zMS) (t : zT) (kp : Nat) (r : Int32) : zMS :=
  if kp = 16 then mkn ms 16 (zpas (va_cpy (ms.2 16) (ms.2 16) 6 0 90) 90 (tc t) 6) (upd (va_cpy (ms.2 17) (ms.2 17) 1 0 15) 15 r)
  else mkn ms (kp + 1) (zpas (ms.2 16) (6 * kp) (tc t) 6) (upd (ms.2 17) kp r)
theorem i_Mod_remember_0 : zins 137 0 = some (.aload_n 0) := by decide +kernel
theorem i_Mod_remember_1 : zins 137 1 = some (.getfield 221) := by decide +kernel
theorem i_Mod_remember_4 : zins 137 4 = some (.bipush 16) := by decide +kernel
theorem i_Mod_remember_6 : zins 137 6 = some (.if_icmp .ne 66) := by decide +kernel
theorem i_Mod_remember_9 : zins 137 9 = some (.iconst 0) := by decide +kernel
theorem i_Mod_remember_10 : zins 137 10 = some (.istore_n 2) := by decide +kernel
theorem i_Mod_remember_11 : zins 137 11 = some (.iload_n 2) := by decide +kernel
theorem i_Mod_remember_12 : zins 137 12 = some (.bipush 90) := by decide +kernel
theorem i_Mod_remember_14 : zins 137 14 = some (.if_icmp .ge 24) := by decide +kernel
theorem i_Mod_remember_17 : zins 137 17 = some (.aload_n 0) := by decide +kernel
theorem i_Mod_remember_18 : zins 137 18 = some (.getfield 56) := by decide +kernel
theorem i_Mod_remember_21 : zins 137 21 = some (.iload_n 2) := by decide +kernel
theorem i_Mod_remember_22 : zins 137 22 = some (.aload_n 0) := by decide +kernel
theorem i_Mod_remember_23 : zins 137 23 = some (.getfield 56) := by decide +kernel
theorem i_Mod_remember_26 : zins 137 26 = some (.iload_n 2) := by decide +kernel
theorem i_Mod_remember_27 : zins 137 27 = some (.bipush 6) := by decide +kernel
theorem i_Mod_remember_29 : zins 137 29 = some (.iadd) := by decide +kernel
theorem i_Mod_remember_30 : zins 137 30 = some (.caload) := by decide +kernel
theorem i_Mod_remember_31 : zins 137 31 = some (.castore) := by decide +kernel
theorem i_Mod_remember_32 : zins 137 32 = some (.iinc 2 1) := by decide +kernel
theorem i_Mod_remember_35 : zins 137 35 = some (.goto (-24)) := by decide +kernel
theorem i_Mod_remember_38 : zins 137 38 = some (.iconst 0) := by decide +kernel
theorem i_Mod_remember_39 : zins 137 39 = some (.istore_n 2) := by decide +kernel
theorem i_Mod_remember_40 : zins 137 40 = some (.iload_n 2) := by decide +kernel
theorem i_Mod_remember_41 : zins 137 41 = some (.bipush 15) := by decide +kernel
theorem i_Mod_remember_43 : zins 137 43 = some (.if_icmp .ge 23) := by decide +kernel
theorem i_Mod_remember_46 : zins 137 46 = some (.aload_n 0) := by decide +kernel
theorem i_Mod_remember_47 : zins 137 47 = some (.getfield 59) := by decide +kernel
theorem i_Mod_remember_50 : zins 137 50 = some (.iload_n 2) := by decide +kernel
theorem i_Mod_remember_51 : zins 137 51 = some (.aload_n 0) := by decide +kernel
theorem i_Mod_remember_52 : zins 137 52 = some (.getfield 59) := by decide +kernel
theorem i_Mod_remember_55 : zins 137 55 = some (.iload_n 2) := by decide +kernel
theorem i_Mod_remember_56 : zins 137 56 = some (.iconst 1) := by decide +kernel
theorem i_Mod_remember_57 : zins 137 57 = some (.iadd) := by decide +kernel
theorem i_Mod_remember_58 : zins 137 58 = some (.iaload) := by decide +kernel
theorem i_Mod_remember_59 : zins 137 59 = some (.iastore) := by decide +kernel
theorem i_Mod_remember_60 : zins 137 60 = some (.iinc 2 1) := by decide +kernel
theorem i_Mod_remember_63 : zins 137 63 = some (.goto (-23)) := by decide +kernel
theorem i_Mod_remember_66 : zins 137 66 = some (.aload_n 0) := by decide +kernel
theorem i_Mod_remember_67 : zins 137 67 = some (.bipush 15) := by decide +kernel
theorem i_Mod_remember_69 : zins 137 69 = some (.putfield 221) := by decide +kernel
theorem i_Mod_remember_72 : zins 137 72 = some (.aload_n 0) := by decide +kernel
theorem i_Mod_remember_73 : zins 137 73 = some (.iconst 0) := by decide +kernel
theorem i_Mod_remember_74 : zins 137 74 = some (.iconst 1) := by decide +kernel
theorem i_Mod_remember_75 : zins 137 75 = some (.iconst 2) := by decide +kernel
theorem i_Mod_remember_76 : zins 137 76 = some (.iconst 1) := by decide +kernel
theorem i_Mod_remember_77 : zins 137 77 = some (.iconst 1) := by decide +kernel
theorem i_Mod_remember_78 : zins 137 78 = some (.invokevirtual 153) := by decide +kernel
theorem i_Mod_remember_81 : zins 137 81 = some (.istore_n 2) := by decide +kernel
theorem i_Mod_remember_82 : zins 137 82 = some (.iconst 0) := by decide +kernel
theorem i_Mod_remember_83 : zins 137 83 = some (.istore_n 3) := by decide +kernel
theorem i_Mod_remember_84 : zins 137 84 = some (.iload_n 3) := by decide +kernel
theorem i_Mod_remember_85 : zins 137 85 = some (.bipush 6) := by decide +kernel
theorem i_Mod_remember_87 : zins 137 87 = some (.if_icmp .ge 29) := by decide +kernel
theorem i_Mod_remember_90 : zins 137 90 = some (.aload_n 0) := by decide +kernel
theorem i_Mod_remember_91 : zins 137 91 = some (.getfield 56) := by decide +kernel
theorem i_Mod_remember_94 : zins 137 94 = some (.bipush 6) := by decide +kernel
theorem i_Mod_remember_96 : zins 137 96 = some (.aload_n 0) := by decide +kernel
theorem i_Mod_remember_97 : zins 137 97 = some (.getfield 221) := by decide +kernel
theorem i_Mod_remember_100 : zins 137 100 = some (.imul) := by decide +kernel
theorem i_Mod_remember_101 : zins 137 101 = some (.iload_n 3) := by decide +kernel
theorem i_Mod_remember_102 : zins 137 102 = some (.iadd) := by decide +kernel
theorem i_Mod_remember_103 : zins 137 103 = some (.aload_n 0) := by decide +kernel
theorem i_Mod_remember_104 : zins 137 104 = some (.iload_n 2) := by decide +kernel
theorem i_Mod_remember_105 : zins 137 105 = some (.iload_n 3) := by decide +kernel
theorem i_Mod_remember_106 : zins 137 106 = some (.invokevirtual 149) := by decide +kernel
theorem i_Mod_remember_109 : zins 137 109 = some (.castore) := by decide +kernel
theorem i_Mod_remember_110 : zins 137 110 = some (.iinc 3 1) := by decide +kernel
theorem i_Mod_remember_113 : zins 137 113 = some (.goto (-29)) := by decide +kernel
theorem i_Mod_remember_116 : zins 137 116 = some (.aload_n 0) := by decide +kernel
theorem i_Mod_remember_117 : zins 137 117 = some (.getfield 59) := by decide +kernel
theorem i_Mod_remember_120 : zins 137 120 = some (.aload_n 0) := by decide +kernel
theorem i_Mod_remember_121 : zins 137 121 = some (.getfield 221) := by decide +kernel
theorem i_Mod_remember_124 : zins 137 124 = some (.iload_n 1) := by decide +kernel
theorem i_Mod_remember_125 : zins 137 125 = some (.iastore) := by decide +kernel
theorem i_Mod_remember_126 : zins 137 126 = some (.aload_n 0) := by decide +kernel
theorem i_Mod_remember_127 : zins 137 127 = some (.dup) := by decide +kernel
theorem i_Mod_remember_128 : zins 137 128 = some (.getfield 221) := by decide +kernel
theorem i_Mod_remember_131 : zins 137 131 = some (.iconst 1) := by decide +kernel
theorem i_Mod_remember_132 : zins 137 132 = some (.iadd) := by decide +kernel
theorem i_Mod_remember_133 : zins 137 133 = some (.putfield 221) := by decide +kernel
theorem i_Mod_remember_136 : zins 137 136 = some (.return_) := by decide +kernel
theorem l1_Mod_remember (X : zX) (d : Nat) (g : zH) (ms : zMS) (r : Int32) (hK : ∀ j, j < 96 → zch (ms.2 16 j)) (u : Option Value × zH) (K : ∀ x, zR X d 137 38 [some (.ref 129), some (.int r), some (.int x), none] [] (mset g (mkn ms 16 (va_cpy (ms.2 16) (ms.2 16) 6 0 90) (ms.2 17))) u) : ∀ (k i : Nat), i + k = 90 → zR X d 137 11 [some (.ref 129), some (.int r), some (.int (nI i)), none] [] (mset g (mkn ms 16 (va_cpy (ms.2 16) (ms.2 16) 6 0 i) (ms.2 17))) u := by
  intro k
  induction k with
  | zero =>
    intro i hik
    have hi : i = 90 := by omega
    subst hi
    refine zr_iload_n i_Mod_remember_11 rfl ?_
    refine zn_bipush 90 i_Mod_remember_12 (by decide) ?_
    refine zn_icmp_ge 38 i_Mod_remember_14 (by decide) (by omega) (by omega) (fun c_14 => ?_) (fun q => absurd q (by first | assumption | omega | simp_all))
    exact K _
  | succ k ih =>
    intro i hik
    refine zr_iload_n i_Mod_remember_11 rfl ?_
    refine zn_bipush 90 i_Mod_remember_12 (by decide) ?_
    refine zn_icmp_ge 38 i_Mod_remember_14 (by decide) (by omega) (by omega) (fun q => absurd q (by first | assumption | omega | simp_all)) (fun c_14 => ?_)
    refine zr_aload_n i_Mod_remember_17 rfl ?_
    refine zr_getf i_Mod_remember_18 rfl rfl rfl ?_
    refine zr_iload_n i_Mod_remember_21 rfl ?_
    refine zr_aload_n i_Mod_remember_22 rfl ?_
    refine zr_getf i_Mod_remember_23 rfl rfl rfl ?_
    refine zr_iload_n i_Mod_remember_26 rfl ?_
    refine zn_bipush 6 i_Mod_remember_27 (by decide) ?_
    refine zn_iadd i_Mod_remember_29 ?_
    refine zn_caload i_Mod_remember_30 rfl (by omega) (by decide) ?_
    refine mn_castore 16 96 i_Mod_remember_31 (fun _ => rfl) (by decide) (by omega) (by decide) ?_
    refine zn_iinc i_Mod_remember_32 rfl rfl ?_
    refine zr_goto 11 i_Mod_remember_35 (by decide) ?_
    (have e := ih (i + 1) (by omega)
     rw [← zcpy_f (f := ms.2 16) (a := 6) (b := 0) (i := i) (by decide), Nat.zero_add, Nat.add_comm 6 i, ← show vp_nar .char ((va_cpy (ms.2 16) (ms.2 16) 6 0 i) (i + 6)) = (va_cpy (ms.2 16) (ms.2 16) 6 0 i) (i + 6) by
       rw [pk_cpy_out (by omega)]; exact hK _ (by omega), ← mkn_16 ms 16 (va_cpy (ms.2 16) (ms.2 16) 6 0 i) (ms.2 17)] at e
     exact e)
theorem l2_Mod_remember (X : zX) (d : Nat) (g : zH) (ms : zMS) (r : Int32) (u : Option Value × zH) (K : ∀ x, zR X d 137 66 [some (.ref 129), some (.int r), some (.int x), none] [] (mset g (mkn ms 16 (va_cpy (ms.2 16) (ms.2 16) 6 0 90) (va_cpy (ms.2 17) (ms.2 17) 1 0 15))) u) : ∀ (k i : Nat), i + k = 15 → zR X d 137 40 [some (.ref 129), some (.int r), some (.int (nI i)), none] [] (mset g (mkn ms 16 (va_cpy (ms.2 16) (ms.2 16) 6 0 90) (va_cpy (ms.2 17) (ms.2 17) 1 0 i))) u := by
  intro k
  induction k with
  | zero =>
    intro i hik
    have hi : i = 15 := by omega
    subst hi
    refine zr_iload_n i_Mod_remember_40 rfl ?_
    refine zn_bipush 15 i_Mod_remember_41 (by decide) ?_
    refine zn_icmp_ge 66 i_Mod_remember_43 (by decide) (by omega) (by omega) (fun c_43 => ?_) (fun q => absurd q (by first | assumption | omega | simp_all))
    exact K _
  | succ k ih =>
    intro i hik
    refine zr_iload_n i_Mod_remember_40 rfl ?_
    refine zn_bipush 15 i_Mod_remember_41 (by decide) ?_
    refine zn_icmp_ge 66 i_Mod_remember_43 (by decide) (by omega) (by omega) (fun q => absurd q (by first | assumption | omega | simp_all)) (fun c_43 => ?_)
    refine zr_aload_n i_Mod_remember_46 rfl ?_
    refine zr_getf i_Mod_remember_47 rfl rfl rfl ?_
    refine zr_iload_n i_Mod_remember_50 rfl ?_
    refine zr_aload_n i_Mod_remember_51 rfl ?_
    refine zr_getf i_Mod_remember_52 rfl rfl rfl ?_
    refine zr_iload_n i_Mod_remember_55 rfl ?_
    refine zn_iconst 1 i_Mod_remember_56 (by decide) ?_
    refine zn_iadd i_Mod_remember_57 ?_
    refine zn_iaload i_Mod_remember_58 rfl (by omega) (by decide) ?_
    refine mn_iastore 17 16 i_Mod_remember_59 (fun _ => rfl) (by decide) (by omega) (by decide) ?_
    refine zn_iinc i_Mod_remember_60 rfl rfl ?_
    refine zr_goto 40 i_Mod_remember_63 (by decide) ?_
    (have e := ih (i + 1) (by omega)
     rw [← zcpy_f (f := ms.2 17) (a := 1) (b := 0) (i := i) (by decide), Nat.zero_add, Nat.add_comm 1 i, ← mkn_17 ms 16 (va_cpy (ms.2 16) (ms.2 16) 6 0 90) (va_cpy (ms.2 17) (ms.2 17) 1 0 i)] at e
     exact e)
theorem l3_Mod_remember (X : zX) (d : Nat) (g : zH) (ms : zMS) (cnt : Nat) (hT : mTV ms 0 cnt) (hC : ∀ i, zch (tc (mV ms 1 2 1 1) i)) (r : Int32) (kp : Nat) (hkp : kp ≤ 15) (a b : Nat → Int32) : ∀ (k i : Nat), i + k = 6 → zR X (d + 2) 137 84 [some (.ref 129), some (.int r), some (.int (tI (mfind ms 0 1 2 1 1))), some (.int (nI i))] [] (mset g (mkn ms kp (zpas a (6 * kp) (tc (mV ms 1 2 1 1)) i) b)) (none, mset g (mkn ms (kp + 1) (zpas a (6 * kp) (tc (mV ms 1 2 1 1)) 6) (upd b kp r))) := by
  intro k
  induction k with
  | zero =>
    intro i hik
    have hi : i = 6 := by omega
    subst hi
    refine zr_iload_n i_Mod_remember_84 rfl ?_
    refine zn_bipush 6 i_Mod_remember_85 (by decide) ?_
    refine zn_icmp_ge 116 i_Mod_remember_87 (by decide) (by omega) (by omega) (fun c_87 => ?_) (fun q => absurd q (by first | assumption | omega | simp_all))
    refine zr_aload_n i_Mod_remember_116 rfl ?_
    refine zr_getf i_Mod_remember_117 rfl rfl rfl ?_
    refine zr_aload_n i_Mod_remember_120 rfl ?_
    refine zr_getf i_Mod_remember_121 rfl rfl rfl ?_
    refine zr_top (y := nI kp) rfl ?_
    refine zr_iload_n i_Mod_remember_124 rfl ?_
    refine mn_iastore 17 16 i_Mod_remember_125 (fun _ => rfl) (by decide) (by omega) (by decide) ?_
    refine zr_aload_n i_Mod_remember_126 rfl ?_
    refine zr_dup i_Mod_remember_127 rfl ?_
    refine zr_getf i_Mod_remember_128 rfl rfl rfl ?_
    refine zr_top (y := nI kp) rfl ?_
    refine zn_iconst 1 i_Mod_remember_131 (by decide) ?_
    refine zn_iadd i_Mod_remember_132 ?_
    refine mr_putf (kk := 6) i_Mod_remember_133 rfl rfl (Nat.le_of_ble_eq_true rfl) rfl rfl rfl ?_
    exact zR.retE i_Mod_remember_136 rfl (by rw [← mkn_k ms kp (kp + 1) (zpas a (6 * kp) (tc (mV ms 1 2 1 1)) 6) (upd b kp r), ← mkn_17 ms kp (zpas a (6 * kp) (tc (mV ms 1 2 1 1)) 6) b (upd b kp r)]; rfl)
  | succ k ih =>
    intro i hik
    refine zr_iload_n i_Mod_remember_84 rfl ?_
    refine zn_bipush 6 i_Mod_remember_85 (by decide) ?_
    refine zn_icmp_ge 116 i_Mod_remember_87 (by decide) (by omega) (by omega) (fun q => absurd q (by first | assumption | omega | simp_all)) (fun c_87 => ?_)
    refine zr_aload_n i_Mod_remember_90 rfl ?_
    refine zr_getf i_Mod_remember_91 rfl rfl rfl ?_
    refine zn_bipush 6 i_Mod_remember_94 (by decide) ?_
    refine zr_aload_n i_Mod_remember_96 rfl ?_
    refine zr_getf i_Mod_remember_97 rfl rfl rfl ?_
    refine zr_top (y := nI kp) rfl ?_
    refine zn_imul i_Mod_remember_100 ?_
    refine zr_iload_n i_Mod_remember_101 rfl ?_
    refine zn_iadd i_Mod_remember_102 ?_
    refine zr_aload_n i_Mod_remember_103 rfl ?_
    refine zr_iload_n i_Mod_remember_104 rfl ?_
    refine zr_iload_n i_Mod_remember_105 rfl ?_
    refine zr_cv2 i_Mod_remember_106 rfl (by decide) rfl (Nat.le_of_ble_eq_true rfl) (Nat.le_of_ble_eq_true rfl) (v_charOf X _ g (mkn ms kp (zpas a (6 * kp) (tc (mV ms 1 2 1 1)) i) b) (mfind ms 0 1 2 1 1) (mto_find hT _ _ _ _ : mto ms _) i (by omega)) ?_
    refine mn_castore 16 96 i_Mod_remember_109 (fun _ => rfl) (by decide) (by omega) (by decide) ?_
    refine zn_iinc i_Mod_remember_110 rfl rfl ?_
    refine zr_goto 84 i_Mod_remember_113 (by decide) ?_
    (have e := ih (i + 1) (by omega)
     rw [← zpas_s, ← mkn_16 ms kp (zpas a (6 * kp) (tc (mV ms 1 2 1 1)) i) b, ← show vp_nar .char (tc (mV ms 1 2 1 1) i) = tc (mV ms 1 2 1 1) i from hC i] at e
     exact e)
theorem x_Mod_remember (X : zX) (d : Nat) (g : zH) (ms : zMS) (cnt : Nat) (hT : mTV ms 0 cnt) (hC : ∀ i, zch (tc (mV ms 1 2 1 1) i)) (r : Int32) (kp : Nat) (hkp : kp ≤ 15) (a b : Nat → Int32) (x : Option Value) (hx : zlong x = false) : zR X (d + 2) 137 72 [some (.ref 129), some (.int r), x, none] [] (mset g (mkn ms kp a b)) (none, mset g (mkn ms (kp + 1) (zpas a (6 * kp) (tc (mV ms 1 2 1 1)) 6) (upd b kp r))) := by
  have e := l3_Mod_remember X d g ms cnt hT hC r kp hkp a b 6 0 rfl
  rw [zpas_0] at e
  refine zr_aload_n i_Mod_remember_72 rfl ?_
  refine zn_iconst 0 i_Mod_remember_73 (by decide) ?_
  refine zr_iconst i_Mod_remember_74 (v := 1) (by decide) ?_
  refine zr_iconst i_Mod_remember_75 (v := 2) (by decide) ?_
  refine zr_iconst i_Mod_remember_76 (v := 1) (by decide) ?_
  refine zr_iconst i_Mod_remember_77 (v := 1) (by decide) ?_
  refine zr_cv5 i_Mod_remember_78 rfl (by decide) rfl (Nat.le_of_ble_eq_true rfl) (Nat.le_of_ble_eq_true rfl) (e_Mod_find X _ g (mkn ms kp a b) 0 cnt _ _ _ _ (by decide) hT.1 hT.2.1) ?_
  refine zr_istore_n i_Mod_remember_81 rfl ?_
  refine zn_iconst 0 i_Mod_remember_82 (by decide) ?_
  refine zr_istore_n i_Mod_remember_83 rfl ?_
  exact e
theorem e_Mod_remember (X : zX) (d : Nat) (g : zH) (ms : zMS) (cnt : Nat) (hT : mTV ms 0 cnt) (hC : ∀ i, zch (tc (mV ms 1 2 1 1) i)) (kp : Nat) (hk : ms.1 6 = nI kp) (hkl : kp ≤ 16) (r : Int32) (hK : ∀ j, j < 96 → zch (ms.2 16 j)) : zR X (d + 2) 137 0 (zent 4 [.ref 129, .int r]) [] (mset g ms) (none, mset g (remF ms (mV ms 1 2 1 1) kp r)) := by
  unfold remF
  by_cases h16 : kp = 16
  · rw [if_pos h16]
    have key : zR X (d + 2) 137 11 [some (.ref 129), some (.int r), some (.int (nI 0)), none] [] (mset g (mkn ms 16 (va_cpy (ms.2 16) (ms.2 16) 6 0 0) (ms.2 17))) (none, mset g (mkn ms 16 (zpas (va_cpy (ms.2 16) (ms.2 16) 6 0 90) 90 (tc (mV ms 1 2 1 1)) 6) (upd (va_cpy (ms.2 17) (ms.2 17) 1 0 15) 15 r))) := by
      refine l1_Mod_remember X (d + 2) g ms r hK _ (fun x => ?_) 90 0 rfl
      refine zn_iconst 0 i_Mod_remember_38 (by decide) ?_
      refine zr_istore_n i_Mod_remember_39 rfl ?_
      skip
      have e := l2_Mod_remember X (d + 2) g ms r (none, mset g (mkn ms 16 (zpas (va_cpy (ms.2 16) (ms.2 16) 6 0 90) 90 (tc (mV ms 1 2 1 1)) 6) (upd (va_cpy (ms.2 17) (ms.2 17) 1 0 15) 15 r))) (fun x => ?_) 15 0 rfl
      · rw [zcpy_0] at e
        exact e
      refine zr_aload_n i_Mod_remember_66 rfl ?_
      refine zn_bipush 15 i_Mod_remember_67 (by decide) ?_
      refine mr_putf (kk := 6) i_Mod_remember_69 rfl rfl (Nat.le_of_ble_eq_true rfl) rfl rfl rfl ?_
      skip
      have e := x_Mod_remember X d g ms cnt hT hC r 15 (by decide) (va_cpy (ms.2 16) (ms.2 16) 6 0 90) (va_cpy (ms.2 17) (ms.2 17) 1 0 15) (some (.int x)) rfl
      rw [← mkn_k ms 16] at e
      exact e
    rw [zcpy_0, show mkn ms 16 (ms.2 16) (ms.2 17) = ms from mkn_self (by rw [hk, h16])] at key
    refine zr_aload_n i_Mod_remember_0 rfl ?_
    refine zr_getf i_Mod_remember_1 rfl rfl rfl ?_
    refine zr_top (y := nI kp) hk ?_
    refine zn_bipush 16 i_Mod_remember_4 (by decide) ?_
    refine zn_icmp_ne 72 i_Mod_remember_6 (by decide) (by omega) (by omega) (fun q => absurd q (by first | assumption | omega | simp_all)) (fun c_6 => ?_)
    refine zn_iconst 0 i_Mod_remember_9 (by decide) ?_
    refine zr_istore_n i_Mod_remember_10 rfl ?_
    exact key
  · rw [if_neg h16]
    have e := x_Mod_remember X d g ms cnt hT hC r kp (by omega) (ms.2 16) (ms.2 17) none rfl
    rw [mkn_self hk] at e
    refine zr_aload_n i_Mod_remember_0 rfl ?_
    refine zr_getf i_Mod_remember_1 rfl rfl rfl ?_
    refine zr_top (y := nI kp) hk ?_
    refine zn_bipush 16 i_Mod_remember_4 (by decide) ?_
    refine zn_icmp_ne 72 i_Mod_remember_6 (by decide) (by omega) (by omega) (fun c_6 => ?_) (fun q => absurd q (by first | assumption | omega | simp_all))
    exact e
end
section
/-! THE REFERENCE: reading a frame, its head and separators -/
def prop1 (c : Int32) : Bool := !decide (c < 33) && (!decide (126 < c) && (!zcap c && (!zsml c && (!zdig c && !decide (c = 34)))))
def okL (f : Nat → Int32) (k i m : Nat) (ok : Bool) : Bool := match m with
  | 0 => ok
  | m + 1 => okL f k (i + 1) m (ok && !decide (f i = f k))
def fitL (f : Nat → Int32) (k m : Nat) (ok : Bool) : Bool := match m with
  | 0 => ok
  | m + 1 => fitL f (k + 1) m (okL f k 0 k (ok && prop1 (f k)))
def fitF (f : Nat → Int32) : Bool := fitL f 0 5 true
def nowF (F : Nat → Int32) (n k : Nat) : Int32 := if k < n then F k else 0
theorem i_Mod_fitting_0 : zins 103 0 = some (.iconst 1) := by decide +kernel
theorem i_Mod_fitting_1 : zins 103 1 = some (.istore_n 1) := by decide +kernel
theorem i_Mod_fitting_2 : zins 103 2 = some (.iconst 0) := by decide +kernel
theorem i_Mod_fitting_3 : zins 103 3 = some (.istore_n 2) := by decide +kernel
theorem i_Mod_fitting_4 : zins 103 4 = some (.iload_n 2) := by decide +kernel
theorem i_Mod_fitting_5 : zins 103 5 = some (.iconst 5) := by decide +kernel
theorem i_Mod_fitting_6 : zins 103 6 = some (.if_icmp .ge 95) := by decide +kernel
theorem i_Mod_fitting_9 : zins 103 9 = some (.aload_n 0) := by decide +kernel
theorem i_Mod_fitting_10 : zins 103 10 = some (.iload_n 2) := by decide +kernel
theorem i_Mod_fitting_11 : zins 103 11 = some (.caload) := by decide +kernel
theorem i_Mod_fitting_12 : zins 103 12 = some (.istore_n 3) := by decide +kernel
theorem i_Mod_fitting_13 : zins 103 13 = some (.iload_n 1) := by decide +kernel
theorem i_Mod_fitting_14 : zins 103 14 = some (.ifCond .eq 46) := by decide +kernel
theorem i_Mod_fitting_17 : zins 103 17 = some (.iload_n 3) := by decide +kernel
theorem i_Mod_fitting_18 : zins 103 18 = some (.bipush 33) := by decide +kernel
theorem i_Mod_fitting_20 : zins 103 20 = some (.if_icmp .lt 40) := by decide +kernel
theorem i_Mod_fitting_23 : zins 103 23 = some (.iload_n 3) := by decide +kernel
theorem i_Mod_fitting_24 : zins 103 24 = some (.bipush 126) := by decide +kernel
theorem i_Mod_fitting_26 : zins 103 26 = some (.if_icmp .gt 34) := by decide +kernel
theorem i_Mod_fitting_29 : zins 103 29 = some (.iload_n 3) := by decide +kernel
theorem i_Mod_fitting_30 : zins 103 30 = some (.invokestatic 102) := by decide +kernel
theorem i_Mod_fitting_33 : zins 103 33 = some (.ifCond .ne 27) := by decide +kernel
theorem i_Mod_fitting_36 : zins 103 36 = some (.iload_n 3) := by decide +kernel
theorem i_Mod_fitting_37 : zins 103 37 = some (.invokestatic 106) := by decide +kernel
theorem i_Mod_fitting_40 : zins 103 40 = some (.ifCond .ne 20) := by decide +kernel
theorem i_Mod_fitting_43 : zins 103 43 = some (.iload_n 3) := by decide +kernel
theorem i_Mod_fitting_44 : zins 103 44 = some (.invokestatic 109) := by decide +kernel
theorem i_Mod_fitting_47 : zins 103 47 = some (.ifCond .ne 13) := by decide +kernel
theorem i_Mod_fitting_50 : zins 103 50 = some (.iload_n 3) := by decide +kernel
theorem i_Mod_fitting_51 : zins 103 51 = some (.bipush 34) := by decide +kernel
theorem i_Mod_fitting_53 : zins 103 53 = some (.if_icmp .eq 7) := by decide +kernel
theorem i_Mod_fitting_56 : zins 103 56 = some (.iconst 1) := by decide +kernel
theorem i_Mod_fitting_57 : zins 103 57 = some (.goto 4) := by decide +kernel
theorem i_Mod_fitting_60 : zins 103 60 = some (.iconst 0) := by decide +kernel
theorem i_Mod_fitting_61 : zins 103 61 = some (.istore_n 1) := by decide +kernel
theorem i_Mod_fitting_62 : zins 103 62 = some (.iconst 0) := by decide +kernel
theorem i_Mod_fitting_63 : zins 103 63 = some (.istore 4) := by decide +kernel
theorem i_Mod_fitting_65 : zins 103 65 = some (.iload 4) := by decide +kernel
theorem i_Mod_fitting_67 : zins 103 67 = some (.iload_n 2) := by decide +kernel
theorem i_Mod_fitting_68 : zins 103 68 = some (.if_icmp .ge 27) := by decide +kernel
theorem i_Mod_fitting_71 : zins 103 71 = some (.iload_n 1) := by decide +kernel
theorem i_Mod_fitting_72 : zins 103 72 = some (.ifCond .eq 15) := by decide +kernel
theorem i_Mod_fitting_75 : zins 103 75 = some (.aload_n 0) := by decide +kernel
theorem i_Mod_fitting_76 : zins 103 76 = some (.iload 4) := by decide +kernel
theorem i_Mod_fitting_78 : zins 103 78 = some (.caload) := by decide +kernel
theorem i_Mod_fitting_79 : zins 103 79 = some (.iload_n 3) := by decide +kernel
theorem i_Mod_fitting_80 : zins 103 80 = some (.if_icmp .eq 7) := by decide +kernel
theorem i_Mod_fitting_83 : zins 103 83 = some (.iconst 1) := by decide +kernel
theorem i_Mod_fitting_84 : zins 103 84 = some (.goto 4) := by decide +kernel
theorem i_Mod_fitting_87 : zins 103 87 = some (.iconst 0) := by decide +kernel
theorem i_Mod_fitting_88 : zins 103 88 = some (.istore_n 1) := by decide +kernel
theorem i_Mod_fitting_89 : zins 103 89 = some (.iinc 4 1) := by decide +kernel
theorem i_Mod_fitting_92 : zins 103 92 = some (.goto (-27)) := by decide +kernel
theorem i_Mod_fitting_95 : zins 103 95 = some (.iinc 2 1) := by decide +kernel
theorem i_Mod_fitting_98 : zins 103 98 = some (.goto (-94)) := by decide +kernel
theorem i_Mod_fitting_101 : zins 103 101 = some (.iload_n 1) := by decide +kernel
theorem i_Mod_fitting_102 : zins 103 102 = some (.ireturn) := by decide +kernel
theorem l1_Mod_fitting (X : zX) (d : Nat) (h : zH) (a : Nat) (f : Nat → Int32) (hr : h.2.2 a = some (.inl (1, 5, .inl f))) (k : Nat) (hk : k < 5) (u : Option Value × zH) : ∀ (m i : Nat) (ok : Bool), i + m = k → (∀ x, zR X d 103 95 [some (.ref a), some (.int (zb (okL f k i m ok))), some (.int (nI k)), some (.int (f k)), some (.int x)] [] h u) → zR X d 103 65 [some (.ref a), some (.int (zb ok)), some (.int (nI k)), some (.int (f k)), some (.int (nI i))] [] h u := by
  intro m
  induction m with
  | zero =>
    intro i ok hik K
    refine zr_iload i_Mod_fitting_65 rfl ?_
    refine zr_iload_n i_Mod_fitting_67 rfl ?_
    refine zn_icmp_ge 95 i_Mod_fitting_68 (by decide) (by omega) (by omega) (fun c_68 => ?_) (fun q => absurd q (by first | assumption | omega | simp_all))
    exact K _
  | succ m ih =>
    intro i ok hik K
    refine zr_iload i_Mod_fitting_65 rfl ?_
    refine zr_iload_n i_Mod_fitting_67 rfl ?_
    refine zn_icmp_ge 95 i_Mod_fitting_68 (by decide) (by omega) (by omega) (fun q => absurd q (by first | assumption | omega | simp_all)) (fun c_68 => ?_)
    refine zr_iload_n i_Mod_fitting_71 rfl ?_
    refine zB_if_eq 87 i_Mod_fitting_72 (by decide) (fun c_72 => ?_) (fun c_72 => ?_)
    · skip
      refine zr_iconst i_Mod_fitting_87 (v := 0) (by decide) ?_
      refine zr_istore_n i_Mod_fitting_88 rfl ?_
      refine zn_iinc i_Mod_fitting_89 rfl rfl ?_
      refine zr_goto 65 i_Mod_fitting_92 (by decide) ?_
      (rw [okL] at K; have e : (ok && !decide (f i = f k)) = false := by simp [*]
       rw [e] at K; exact ih (i + 1) false (by omega) K)
    · skip
      refine zr_aload_n i_Mod_fitting_75 rfl ?_
      refine zr_iload i_Mod_fitting_76 rfl ?_
      refine zn_caload i_Mod_fitting_78 hr (by omega) (by decide) ?_
      refine zr_iload_n i_Mod_fitting_79 rfl ?_
      refine zr_icmp_eq 87 i_Mod_fitting_80 (by decide) (fun c_80 => ?_) (fun c_80 => ?_)
      · skip
        refine zr_iconst i_Mod_fitting_87 (v := 0) (by decide) ?_
        refine zr_istore_n i_Mod_fitting_88 rfl ?_
        refine zn_iinc i_Mod_fitting_89 rfl rfl ?_
        refine zr_goto 65 i_Mod_fitting_92 (by decide) ?_
        (rw [okL] at K; have e : (ok && !decide (f i = f k)) = false := by simp [*]
         rw [e] at K; exact ih (i + 1) false (by omega) K)
      · skip
        refine zr_iconst i_Mod_fitting_83 (v := 1) (by decide) ?_
        refine zr_goto 88 i_Mod_fitting_84 (by decide) ?_
        refine zr_istore_n i_Mod_fitting_88 rfl ?_
        refine zn_iinc i_Mod_fitting_89 rfl rfl ?_
        refine zr_goto 65 i_Mod_fitting_92 (by decide) ?_
        (rw [okL] at K; have e : (ok && !decide (f i = f k)) = true := by simp [*]
         rw [e] at K; exact ih (i + 1) true (by omega) K)
theorem l2_Mod_fitting (X : zX) (d : Nat) (h : zH) (a : Nat) (f : Nat → Int32) (hr : h.2.2 a = some (.inl (1, 5, .inl f))) : ∀ (m k : Nat) (ok : Bool) (x3 x4 : Option Value), k + m = 5 → zR X (d + 1) 103 4 [some (.ref a), some (.int (zb ok)), some (.int (nI k)), x3, x4] [] h (some (.int (zb (fitL f k m ok))), h) := by
  intro m
  induction m with
  | zero =>
    intro k ok x3 x4 hik
    refine zr_iload_n i_Mod_fitting_4 rfl ?_
    refine zn_iconst 5 i_Mod_fitting_5 (by decide) ?_
    refine zn_icmp_ge 101 i_Mod_fitting_6 (by decide) (by omega) (by omega) (fun c_6 => ?_) (fun q => absurd q (by first | assumption | omega | simp_all))
    refine zr_iload_n i_Mod_fitting_101 rfl ?_
    exact zR.retE i_Mod_fitting_102 (zretB _) rfl
  | succ m ih =>
    intro k ok x3 x4 hik
    refine zr_iload_n i_Mod_fitting_4 rfl ?_
    refine zn_iconst 5 i_Mod_fitting_5 (by decide) ?_
    refine zn_icmp_ge 101 i_Mod_fitting_6 (by decide) (by omega) (by omega) (fun q => absurd q (by first | assumption | omega | simp_all)) (fun c_6 => ?_)
    refine zr_aload_n i_Mod_fitting_9 rfl ?_
    refine zr_iload_n i_Mod_fitting_10 rfl ?_
    refine zn_caload i_Mod_fitting_11 hr (by omega) (by decide) ?_
    refine zr_istore_n i_Mod_fitting_12 rfl ?_
    refine zr_iload_n i_Mod_fitting_13 rfl ?_
    refine zB_if_eq 60 i_Mod_fitting_14 (by decide) (fun c_14 => ?_) (fun c_14 => ?_)
    · skip
      refine zr_iconst i_Mod_fitting_60 (v := 0) (by decide) ?_
      refine zr_istore_n i_Mod_fitting_61 rfl ?_
      refine zn_iconst 0 i_Mod_fitting_62 (by decide) ?_
      refine zr_istore i_Mod_fitting_63 rfl ?_
      (have e : (ok && prop1 (f k)) = false := by simp [prop1, *]
       rw [fitL, e]
       refine l1_Mod_fitting X (d + 1) h a f hr k (by omega) _ k 0 false (by omega) (fun x => ?_)
       refine zn_iinc i_Mod_fitting_95 rfl rfl ?_
       refine zr_goto 4 i_Mod_fitting_98 (by decide) ?_
       exact ih (k + 1) _ _ _ (by omega))
    · skip
      refine zr_iload_n i_Mod_fitting_17 rfl ?_
      refine zr_bipush i_Mod_fitting_18 (v := 33) (by decide) ?_
      refine zr_icmp_lt 60 i_Mod_fitting_20 (by decide) (fun c_20 => ?_) (fun c_20 => ?_)
      · skip
        refine zr_iconst i_Mod_fitting_60 (v := 0) (by decide) ?_
        refine zr_istore_n i_Mod_fitting_61 rfl ?_
        refine zn_iconst 0 i_Mod_fitting_62 (by decide) ?_
        refine zr_istore i_Mod_fitting_63 rfl ?_
        (have e : (ok && prop1 (f k)) = false := by simp [prop1, *]
         rw [fitL, e]
         refine l1_Mod_fitting X (d + 1) h a f hr k (by omega) _ k 0 false (by omega) (fun x => ?_)
         refine zn_iinc i_Mod_fitting_95 rfl rfl ?_
         refine zr_goto 4 i_Mod_fitting_98 (by decide) ?_
         exact ih (k + 1) _ _ _ (by omega))
      · skip
        refine zr_iload_n i_Mod_fitting_23 rfl ?_
        refine zr_bipush i_Mod_fitting_24 (v := 126) (by decide) ?_
        refine zr_icmp_gt 60 i_Mod_fitting_26 (by decide) (fun c_26 => ?_) (fun c_26 => ?_)
        · skip
          refine zr_iconst i_Mod_fitting_60 (v := 0) (by decide) ?_
          refine zr_istore_n i_Mod_fitting_61 rfl ?_
          refine zn_iconst 0 i_Mod_fitting_62 (by decide) ?_
          refine zr_istore i_Mod_fitting_63 rfl ?_
          (have e : (ok && prop1 (f k)) = false := by simp [prop1, *]
           rw [fitL, e]
           refine l1_Mod_fitting X (d + 1) h a f hr k (by omega) _ k 0 false (by omega) (fun x => ?_)
           refine zn_iinc i_Mod_fitting_95 rfl rfl ?_
           refine zr_goto 4 i_Mod_fitting_98 (by decide) ?_
           exact ih (k + 1) _ _ _ (by omega))
        · skip
          refine zr_iload_n i_Mod_fitting_29 rfl ?_
          refine zr_cs1 i_Mod_fitting_30 rfl (by decide) (Nat.le_of_ble_eq_true rfl) (Nat.le_of_ble_eq_true rfl) (e_Mod_capital X _ h _) ?_
          refine zB_if_ne 60 i_Mod_fitting_33 (by decide) (fun c_33 => ?_) (fun c_33 => ?_)
          · skip
            refine zr_iconst i_Mod_fitting_60 (v := 0) (by decide) ?_
            refine zr_istore_n i_Mod_fitting_61 rfl ?_
            refine zn_iconst 0 i_Mod_fitting_62 (by decide) ?_
            refine zr_istore i_Mod_fitting_63 rfl ?_
            (have e : (ok && prop1 (f k)) = false := by simp [prop1, *]
             rw [fitL, e]
             refine l1_Mod_fitting X (d + 1) h a f hr k (by omega) _ k 0 false (by omega) (fun x => ?_)
             refine zn_iinc i_Mod_fitting_95 rfl rfl ?_
             refine zr_goto 4 i_Mod_fitting_98 (by decide) ?_
             exact ih (k + 1) _ _ _ (by omega))
          · skip
            refine zr_iload_n i_Mod_fitting_36 rfl ?_
            refine zr_cs1 i_Mod_fitting_37 rfl (by decide) (Nat.le_of_ble_eq_true rfl) (Nat.le_of_ble_eq_true rfl) (e_Mod_small X _ h _) ?_
            refine zB_if_ne 60 i_Mod_fitting_40 (by decide) (fun c_40 => ?_) (fun c_40 => ?_)
            · skip
              refine zr_iconst i_Mod_fitting_60 (v := 0) (by decide) ?_
              refine zr_istore_n i_Mod_fitting_61 rfl ?_
              refine zn_iconst 0 i_Mod_fitting_62 (by decide) ?_
              refine zr_istore i_Mod_fitting_63 rfl ?_
              (have e : (ok && prop1 (f k)) = false := by simp [prop1, *]
               rw [fitL, e]
               refine l1_Mod_fitting X (d + 1) h a f hr k (by omega) _ k 0 false (by omega) (fun x => ?_)
               refine zn_iinc i_Mod_fitting_95 rfl rfl ?_
               refine zr_goto 4 i_Mod_fitting_98 (by decide) ?_
               exact ih (k + 1) _ _ _ (by omega))
            · skip
              refine zr_iload_n i_Mod_fitting_43 rfl ?_
              refine zr_cs1 i_Mod_fitting_44 rfl (by decide) (Nat.le_of_ble_eq_true rfl) (Nat.le_of_ble_eq_true rfl) (e_Mod_digit X _ h _) ?_
              refine zB_if_ne 60 i_Mod_fitting_47 (by decide) (fun c_47 => ?_) (fun c_47 => ?_)
              · skip
                refine zr_iconst i_Mod_fitting_60 (v := 0) (by decide) ?_
                refine zr_istore_n i_Mod_fitting_61 rfl ?_
                refine zn_iconst 0 i_Mod_fitting_62 (by decide) ?_
                refine zr_istore i_Mod_fitting_63 rfl ?_
                (have e : (ok && prop1 (f k)) = false := by simp [prop1, *]
                 rw [fitL, e]
                 refine l1_Mod_fitting X (d + 1) h a f hr k (by omega) _ k 0 false (by omega) (fun x => ?_)
                 refine zn_iinc i_Mod_fitting_95 rfl rfl ?_
                 refine zr_goto 4 i_Mod_fitting_98 (by decide) ?_
                 exact ih (k + 1) _ _ _ (by omega))
              · skip
                refine zr_iload_n i_Mod_fitting_50 rfl ?_
                refine zr_bipush i_Mod_fitting_51 (v := 34) (by decide) ?_
                refine zr_icmp_eq 60 i_Mod_fitting_53 (by decide) (fun c_53 => ?_) (fun c_53 => ?_)
                · skip
                  refine zr_iconst i_Mod_fitting_60 (v := 0) (by decide) ?_
                  refine zr_istore_n i_Mod_fitting_61 rfl ?_
                  refine zn_iconst 0 i_Mod_fitting_62 (by decide) ?_
                  refine zr_istore i_Mod_fitting_63 rfl ?_
                  (have e : (ok && prop1 (f k)) = false := by simp [prop1, *]
                   rw [fitL, e]
                   refine l1_Mod_fitting X (d + 1) h a f hr k (by omega) _ k 0 false (by omega) (fun x => ?_)
                   refine zn_iinc i_Mod_fitting_95 rfl rfl ?_
                   refine zr_goto 4 i_Mod_fitting_98 (by decide) ?_
                   exact ih (k + 1) _ _ _ (by omega))
                · skip
                  refine zr_iconst i_Mod_fitting_56 (v := 1) (by decide) ?_
                  refine zr_goto 61 i_Mod_fitting_57 (by decide) ?_
                  refine zr_istore_n i_Mod_fitting_61 rfl ?_
                  refine zn_iconst 0 i_Mod_fitting_62 (by decide) ?_
                  refine zr_istore i_Mod_fitting_63 rfl ?_
                  (have e : (ok && prop1 (f k)) = true := by simp [prop1, *]
                   rw [fitL, e]
                   refine l1_Mod_fitting X (d + 1) h a f hr k (by omega) _ k 0 true (by omega) (fun x => ?_)
                   refine zn_iinc i_Mod_fitting_95 rfl rfl ?_
                   refine zr_goto 4 i_Mod_fitting_98 (by decide) ?_
                   exact ih (k + 1) _ _ _ (by omega))
theorem e_Mod_fitting (X : zX) (d : Nat) (h : zH) (a : Nat) (f : Nat → Int32) (hr : h.2.2 a = some (.inl (1, 5, .inl f))) : zR X (d + 1) 103 0 (zent 5 [.ref a]) [] h (some (.int (zb (fitF f))), h) := by
  refine zr_iconst i_Mod_fitting_0 (v := 1) (by decide) ?_
  refine zr_istore_n i_Mod_fitting_1 rfl ?_
  refine zn_iconst 0 i_Mod_fitting_2 (by decide) ?_
  refine zr_istore_n i_Mod_fitting_3 rfl ?_
  exact l2_Mod_fitting X d h a f hr 5 0 true none none rfl
theorem i_Mod_begin_0 : zins 100 0 = some (.aload_n 0) := by decide +kernel
theorem i_Mod_begin_1 : zins 100 1 = some (.getfield 98) := by decide +kernel
theorem i_Mod_begin_4 : zins 100 4 = some (.iconst 3) := by decide +kernel
theorem i_Mod_begin_5 : zins 100 5 = some (.if_icmp .lt 40) := by decide +kernel
theorem i_Mod_begin_8 : zins 100 8 = some (.aload_n 0) := by decide +kernel
theorem i_Mod_begin_9 : zins 100 9 = some (.getfield 7) := by decide +kernel
theorem i_Mod_begin_12 : zins 100 12 = some (.iconst 0) := by decide +kernel
theorem i_Mod_begin_13 : zins 100 13 = some (.caload) := by decide +kernel
theorem i_Mod_begin_14 : zins 100 14 = some (.bipush 72) := by decide +kernel
theorem i_Mod_begin_16 : zins 100 16 = some (.if_icmp .ne 29) := by decide +kernel
theorem i_Mod_begin_19 : zins 100 19 = some (.aload_n 0) := by decide +kernel
theorem i_Mod_begin_20 : zins 100 20 = some (.getfield 7) := by decide +kernel
theorem i_Mod_begin_23 : zins 100 23 = some (.iconst 1) := by decide +kernel
theorem i_Mod_begin_24 : zins 100 24 = some (.caload) := by decide +kernel
theorem i_Mod_begin_25 : zins 100 25 = some (.bipush 68) := by decide +kernel
theorem i_Mod_begin_27 : zins 100 27 = some (.if_icmp .ne 18) := by decide +kernel
theorem i_Mod_begin_30 : zins 100 30 = some (.aload_n 0) := by decide +kernel
theorem i_Mod_begin_31 : zins 100 31 = some (.getfield 7) := by decide +kernel
theorem i_Mod_begin_34 : zins 100 34 = some (.iconst 2) := by decide +kernel
theorem i_Mod_begin_35 : zins 100 35 = some (.caload) := by decide +kernel
theorem i_Mod_begin_36 : zins 100 36 = some (.bipush 82) := by decide +kernel
theorem i_Mod_begin_38 : zins 100 38 = some (.if_icmp .ne 7) := by decide +kernel
theorem i_Mod_begin_41 : zins 100 41 = some (.iconst 1) := by decide +kernel
theorem i_Mod_begin_42 : zins 100 42 = some (.goto 4) := by decide +kernel
theorem i_Mod_begin_45 : zins 100 45 = some (.iconst 0) := by decide +kernel
theorem i_Mod_begin_46 : zins 100 46 = some (.istore_n 1) := by decide +kernel
theorem i_Mod_begin_47 : zins 100 47 = some (.aload_n 0) := by decide +kernel
theorem i_Mod_begin_48 : zins 100 48 = some (.getfield 13) := by decide +kernel
theorem i_Mod_begin_51 : zins 100 51 = some (.iconst 0) := by decide +kernel
theorem i_Mod_begin_52 : zins 100 52 = some (.iconst 1) := by decide +kernel
theorem i_Mod_begin_53 : zins 100 53 = some (.iastore) := by decide +kernel
theorem i_Mod_begin_54 : zins 100 54 = some (.aload_n 0) := by decide +kernel
theorem i_Mod_begin_55 : zins 100 55 = some (.getfield 17) := by decide +kernel
theorem i_Mod_begin_58 : zins 100 58 = some (.iconst 0) := by decide +kernel
theorem i_Mod_begin_59 : zins 100 59 = some (.iconst 0) := by decide +kernel
theorem i_Mod_begin_60 : zins 100 60 = some (.iastore) := by decide +kernel
theorem i_Mod_begin_61 : zins 100 61 = some (.aload_n 0) := by decide +kernel
theorem i_Mod_begin_62 : zins 100 62 = some (.getfield 20) := by decide +kernel
theorem i_Mod_begin_65 : zins 100 65 = some (.iconst 0) := by decide +kernel
theorem i_Mod_begin_66 : zins 100 66 = some (.iconst 0) := by decide +kernel
theorem i_Mod_begin_67 : zins 100 67 = some (.iastore) := by decide +kernel
theorem i_Mod_begin_68 : zins 100 68 = some (.aload_n 0) := by decide +kernel
theorem i_Mod_begin_69 : zins 100 69 = some (.getfield 47) := by decide +kernel
theorem i_Mod_begin_72 : zins 100 72 = some (.iconst 0) := by decide +kernel
theorem i_Mod_begin_73 : zins 100 73 = some (.bipush 72) := by decide +kernel
theorem i_Mod_begin_75 : zins 100 75 = some (.castore) := by decide +kernel
theorem i_Mod_begin_76 : zins 100 76 = some (.aload_n 0) := by decide +kernel
theorem i_Mod_begin_77 : zins 100 77 = some (.getfield 47) := by decide +kernel
theorem i_Mod_begin_80 : zins 100 80 = some (.iconst 1) := by decide +kernel
theorem i_Mod_begin_81 : zins 100 81 = some (.bipush 68) := by decide +kernel
theorem i_Mod_begin_83 : zins 100 83 = some (.castore) := by decide +kernel
theorem i_Mod_begin_84 : zins 100 84 = some (.aload_n 0) := by decide +kernel
theorem i_Mod_begin_85 : zins 100 85 = some (.getfield 47) := by decide +kernel
theorem i_Mod_begin_88 : zins 100 88 = some (.iconst 2) := by decide +kernel
theorem i_Mod_begin_89 : zins 100 89 = some (.bipush 82) := by decide +kernel
theorem i_Mod_begin_91 : zins 100 91 = some (.castore) := by decide +kernel
theorem i_Mod_begin_92 : zins 100 92 = some (.aload_n 0) := by decide +kernel
theorem i_Mod_begin_93 : zins 100 93 = some (.iconst 3) := by decide +kernel
theorem i_Mod_begin_94 : zins 100 94 = some (.putfield 112) := by decide +kernel
theorem i_Mod_begin_97 : zins 100 97 = some (.iload_n 1) := by decide +kernel
theorem i_Mod_begin_98 : zins 100 98 = some (.ireturn) := by decide +kernel
def mbeg (ms : zMS) : zMS := (va_up ms.1 1 3, va_up (va_up (va_up (va_up ms.2 2 (upd (ms.2 2) 0 1)) 3 (upd (ms.2 3) 0 0)) 4 (upd (ms.2 4) 0 0)) 13 (upd (upd (upd (ms.2 13) 0 72) 1 68) 2 82))
def headF (F : Nat → Int32) (n : Nat) : Bool := decide (3 ≤ n) && (decide (F 0 = 72) && (decide (F 1 = 68) && decide (F 2 = 82)))
theorem e_Mod_begin (X : zX) (d : Nat) (g : zH) (ms : zMS) (n : Nat) (h0 : ms.1 0 = nI n) (hn : n ≤ 200) : zR X d 100 0 (zent 2 [.ref 129]) [] (mset g ms) (some (.int (zb (headF (ms.2 1) n))), mset g (mbeg ms)) := by
  refine zr_aload_n i_Mod_begin_0 rfl ?_
  refine zr_getf i_Mod_begin_1 rfl rfl rfl ?_
  refine zr_top (y := nI n) h0 ?_
  refine zn_iconst 3 i_Mod_begin_4 (by decide) ?_
  refine zn_icmp_lt 45 i_Mod_begin_5 (by decide) (by omega) (by omega) (fun c_5 => ?_) (fun c_5 => ?_)
  · skip
    refine zr_iconst i_Mod_begin_45 (v := 0) (by decide) ?_
    refine zr_istore_n i_Mod_begin_46 rfl ?_
    refine zr_aload_n i_Mod_begin_47 rfl ?_
    refine zr_getf i_Mod_begin_48 rfl rfl rfl ?_
    refine zn_iconst 0 i_Mod_begin_51 (by decide) ?_
    refine zr_iconst i_Mod_begin_52 (v := 1) (by decide) ?_
    refine mn_iastore 2 2 i_Mod_begin_53 (fun _ => rfl) (by decide) (by omega) (by decide) ?_
    refine zr_aload_n i_Mod_begin_54 rfl ?_
    refine zr_getf i_Mod_begin_55 rfl rfl rfl ?_
    refine zn_iconst 0 i_Mod_begin_58 (by decide) ?_
    refine zr_iconst i_Mod_begin_59 (v := 0) (by decide) ?_
    refine mn_iastore 3 2 i_Mod_begin_60 (fun _ => rfl) (by decide) (by omega) (by decide) ?_
    refine zr_aload_n i_Mod_begin_61 rfl ?_
    refine zr_getf i_Mod_begin_62 rfl rfl rfl ?_
    refine zn_iconst 0 i_Mod_begin_65 (by decide) ?_
    refine zr_iconst i_Mod_begin_66 (v := 0) (by decide) ?_
    refine mn_iastore 4 2 i_Mod_begin_67 (fun _ => rfl) (by decide) (by omega) (by decide) ?_
    refine zr_aload_n i_Mod_begin_68 rfl ?_
    refine zr_getf i_Mod_begin_69 rfl rfl rfl ?_
    refine zn_iconst 0 i_Mod_begin_72 (by decide) ?_
    refine zr_bipush i_Mod_begin_73 (v := 72) (by decide) ?_
    refine mn_castore 13 1200 i_Mod_begin_75 (fun _ => rfl) (by decide) (by omega) (by decide) ?_
    refine zr_aload_n i_Mod_begin_76 rfl ?_
    refine zr_getf i_Mod_begin_77 rfl rfl rfl ?_
    refine zn_iconst 1 i_Mod_begin_80 (by decide) ?_
    refine zr_bipush i_Mod_begin_81 (v := 68) (by decide) ?_
    refine mn_castore 13 1200 i_Mod_begin_83 (fun _ => rfl) (by decide) (by omega) (by decide) ?_
    refine zr_aload_n i_Mod_begin_84 rfl ?_
    refine zr_getf i_Mod_begin_85 rfl rfl rfl ?_
    refine zn_iconst 2 i_Mod_begin_88 (by decide) ?_
    refine zr_bipush i_Mod_begin_89 (v := 82) (by decide) ?_
    refine mn_castore 13 1200 i_Mod_begin_91 (fun _ => rfl) (by decide) (by omega) (by decide) ?_
    refine zr_aload_n i_Mod_begin_92 rfl ?_
    refine zr_iconst i_Mod_begin_93 (v := 3) (by decide) ?_
    refine mr_putf (kk := 1) i_Mod_begin_94 rfl rfl (Nat.le_of_ble_eq_true rfl) rfl rfl rfl ?_
    refine zr_iload_n i_Mod_begin_97 rfl ?_
    exact zR.retE i_Mod_begin_98 rfl (by
      rw [show mbeg ms = (va_up ms.1 1 3, va_up (va_up (va_up (va_up (va_up (va_up ms.2 2 (upd (ms.2 2) 0 1)) 3 (upd (ms.2 3) 0 0)) 4 (upd (ms.2 4) 0 0)) 13 (upd (ms.2 13) 0 72)) 13 (upd (upd (ms.2 13) 0 72) 1 68)) 13 (upd (upd (upd (ms.2 13) 0 72) 1 68) 2 82)) by unfold mbeg; rw [up_same, up_same]]
      rw [show headF (ms.2 1) n = false by simp [headF, *] <;> omega]
      rfl)
  · skip
    refine zr_aload_n i_Mod_begin_8 rfl ?_
    refine zr_getf i_Mod_begin_9 rfl rfl rfl ?_
    refine zn_iconst 0 i_Mod_begin_12 (by decide) ?_
    refine zn_caload i_Mod_begin_13 rfl (by omega) (by decide) ?_
    refine zr_bipush i_Mod_begin_14 (v := 72) (by decide) ?_
    refine zr_icmp_ne 45 i_Mod_begin_16 (by decide) (fun c_16 => ?_) (fun c_16 => ?_)
    · skip
      refine zr_iconst i_Mod_begin_45 (v := 0) (by decide) ?_
      refine zr_istore_n i_Mod_begin_46 rfl ?_
      refine zr_aload_n i_Mod_begin_47 rfl ?_
      refine zr_getf i_Mod_begin_48 rfl rfl rfl ?_
      refine zn_iconst 0 i_Mod_begin_51 (by decide) ?_
      refine zr_iconst i_Mod_begin_52 (v := 1) (by decide) ?_
      refine mn_iastore 2 2 i_Mod_begin_53 (fun _ => rfl) (by decide) (by omega) (by decide) ?_
      refine zr_aload_n i_Mod_begin_54 rfl ?_
      refine zr_getf i_Mod_begin_55 rfl rfl rfl ?_
      refine zn_iconst 0 i_Mod_begin_58 (by decide) ?_
      refine zr_iconst i_Mod_begin_59 (v := 0) (by decide) ?_
      refine mn_iastore 3 2 i_Mod_begin_60 (fun _ => rfl) (by decide) (by omega) (by decide) ?_
      refine zr_aload_n i_Mod_begin_61 rfl ?_
      refine zr_getf i_Mod_begin_62 rfl rfl rfl ?_
      refine zn_iconst 0 i_Mod_begin_65 (by decide) ?_
      refine zr_iconst i_Mod_begin_66 (v := 0) (by decide) ?_
      refine mn_iastore 4 2 i_Mod_begin_67 (fun _ => rfl) (by decide) (by omega) (by decide) ?_
      refine zr_aload_n i_Mod_begin_68 rfl ?_
      refine zr_getf i_Mod_begin_69 rfl rfl rfl ?_
      refine zn_iconst 0 i_Mod_begin_72 (by decide) ?_
      refine zr_bipush i_Mod_begin_73 (v := 72) (by decide) ?_
      refine mn_castore 13 1200 i_Mod_begin_75 (fun _ => rfl) (by decide) (by omega) (by decide) ?_
      refine zr_aload_n i_Mod_begin_76 rfl ?_
      refine zr_getf i_Mod_begin_77 rfl rfl rfl ?_
      refine zn_iconst 1 i_Mod_begin_80 (by decide) ?_
      refine zr_bipush i_Mod_begin_81 (v := 68) (by decide) ?_
      refine mn_castore 13 1200 i_Mod_begin_83 (fun _ => rfl) (by decide) (by omega) (by decide) ?_
      refine zr_aload_n i_Mod_begin_84 rfl ?_
      refine zr_getf i_Mod_begin_85 rfl rfl rfl ?_
      refine zn_iconst 2 i_Mod_begin_88 (by decide) ?_
      refine zr_bipush i_Mod_begin_89 (v := 82) (by decide) ?_
      refine mn_castore 13 1200 i_Mod_begin_91 (fun _ => rfl) (by decide) (by omega) (by decide) ?_
      refine zr_aload_n i_Mod_begin_92 rfl ?_
      refine zr_iconst i_Mod_begin_93 (v := 3) (by decide) ?_
      refine mr_putf (kk := 1) i_Mod_begin_94 rfl rfl (Nat.le_of_ble_eq_true rfl) rfl rfl rfl ?_
      refine zr_iload_n i_Mod_begin_97 rfl ?_
      exact zR.retE i_Mod_begin_98 rfl (by
        rw [show mbeg ms = (va_up ms.1 1 3, va_up (va_up (va_up (va_up (va_up (va_up ms.2 2 (upd (ms.2 2) 0 1)) 3 (upd (ms.2 3) 0 0)) 4 (upd (ms.2 4) 0 0)) 13 (upd (ms.2 13) 0 72)) 13 (upd (upd (ms.2 13) 0 72) 1 68)) 13 (upd (upd (upd (ms.2 13) 0 72) 1 68) 2 82)) by unfold mbeg; rw [up_same, up_same]]
        rw [show headF (ms.2 1) n = false by simp [headF, *] <;> omega]
        rfl)
    · skip
      refine zr_aload_n i_Mod_begin_19 rfl ?_
      refine zr_getf i_Mod_begin_20 rfl rfl rfl ?_
      refine zn_iconst 1 i_Mod_begin_23 (by decide) ?_
      refine zn_caload i_Mod_begin_24 rfl (by omega) (by decide) ?_
      refine zr_bipush i_Mod_begin_25 (v := 68) (by decide) ?_
      refine zr_icmp_ne 45 i_Mod_begin_27 (by decide) (fun c_27 => ?_) (fun c_27 => ?_)
      · skip
        refine zr_iconst i_Mod_begin_45 (v := 0) (by decide) ?_
        refine zr_istore_n i_Mod_begin_46 rfl ?_
        refine zr_aload_n i_Mod_begin_47 rfl ?_
        refine zr_getf i_Mod_begin_48 rfl rfl rfl ?_
        refine zn_iconst 0 i_Mod_begin_51 (by decide) ?_
        refine zr_iconst i_Mod_begin_52 (v := 1) (by decide) ?_
        refine mn_iastore 2 2 i_Mod_begin_53 (fun _ => rfl) (by decide) (by omega) (by decide) ?_
        refine zr_aload_n i_Mod_begin_54 rfl ?_
        refine zr_getf i_Mod_begin_55 rfl rfl rfl ?_
        refine zn_iconst 0 i_Mod_begin_58 (by decide) ?_
        refine zr_iconst i_Mod_begin_59 (v := 0) (by decide) ?_
        refine mn_iastore 3 2 i_Mod_begin_60 (fun _ => rfl) (by decide) (by omega) (by decide) ?_
        refine zr_aload_n i_Mod_begin_61 rfl ?_
        refine zr_getf i_Mod_begin_62 rfl rfl rfl ?_
        refine zn_iconst 0 i_Mod_begin_65 (by decide) ?_
        refine zr_iconst i_Mod_begin_66 (v := 0) (by decide) ?_
        refine mn_iastore 4 2 i_Mod_begin_67 (fun _ => rfl) (by decide) (by omega) (by decide) ?_
        refine zr_aload_n i_Mod_begin_68 rfl ?_
        refine zr_getf i_Mod_begin_69 rfl rfl rfl ?_
        refine zn_iconst 0 i_Mod_begin_72 (by decide) ?_
        refine zr_bipush i_Mod_begin_73 (v := 72) (by decide) ?_
        refine mn_castore 13 1200 i_Mod_begin_75 (fun _ => rfl) (by decide) (by omega) (by decide) ?_
        refine zr_aload_n i_Mod_begin_76 rfl ?_
        refine zr_getf i_Mod_begin_77 rfl rfl rfl ?_
        refine zn_iconst 1 i_Mod_begin_80 (by decide) ?_
        refine zr_bipush i_Mod_begin_81 (v := 68) (by decide) ?_
        refine mn_castore 13 1200 i_Mod_begin_83 (fun _ => rfl) (by decide) (by omega) (by decide) ?_
        refine zr_aload_n i_Mod_begin_84 rfl ?_
        refine zr_getf i_Mod_begin_85 rfl rfl rfl ?_
        refine zn_iconst 2 i_Mod_begin_88 (by decide) ?_
        refine zr_bipush i_Mod_begin_89 (v := 82) (by decide) ?_
        refine mn_castore 13 1200 i_Mod_begin_91 (fun _ => rfl) (by decide) (by omega) (by decide) ?_
        refine zr_aload_n i_Mod_begin_92 rfl ?_
        refine zr_iconst i_Mod_begin_93 (v := 3) (by decide) ?_
        refine mr_putf (kk := 1) i_Mod_begin_94 rfl rfl (Nat.le_of_ble_eq_true rfl) rfl rfl rfl ?_
        refine zr_iload_n i_Mod_begin_97 rfl ?_
        exact zR.retE i_Mod_begin_98 rfl (by
          rw [show mbeg ms = (va_up ms.1 1 3, va_up (va_up (va_up (va_up (va_up (va_up ms.2 2 (upd (ms.2 2) 0 1)) 3 (upd (ms.2 3) 0 0)) 4 (upd (ms.2 4) 0 0)) 13 (upd (ms.2 13) 0 72)) 13 (upd (upd (ms.2 13) 0 72) 1 68)) 13 (upd (upd (upd (ms.2 13) 0 72) 1 68) 2 82)) by unfold mbeg; rw [up_same, up_same]]
          rw [show headF (ms.2 1) n = false by simp [headF, *] <;> omega]
          rfl)
      · skip
        refine zr_aload_n i_Mod_begin_30 rfl ?_
        refine zr_getf i_Mod_begin_31 rfl rfl rfl ?_
        refine zn_iconst 2 i_Mod_begin_34 (by decide) ?_
        refine zn_caload i_Mod_begin_35 rfl (by omega) (by decide) ?_
        refine zr_bipush i_Mod_begin_36 (v := 82) (by decide) ?_
        refine zr_icmp_ne 45 i_Mod_begin_38 (by decide) (fun c_38 => ?_) (fun c_38 => ?_)
        · skip
          refine zr_iconst i_Mod_begin_45 (v := 0) (by decide) ?_
          refine zr_istore_n i_Mod_begin_46 rfl ?_
          refine zr_aload_n i_Mod_begin_47 rfl ?_
          refine zr_getf i_Mod_begin_48 rfl rfl rfl ?_
          refine zn_iconst 0 i_Mod_begin_51 (by decide) ?_
          refine zr_iconst i_Mod_begin_52 (v := 1) (by decide) ?_
          refine mn_iastore 2 2 i_Mod_begin_53 (fun _ => rfl) (by decide) (by omega) (by decide) ?_
          refine zr_aload_n i_Mod_begin_54 rfl ?_
          refine zr_getf i_Mod_begin_55 rfl rfl rfl ?_
          refine zn_iconst 0 i_Mod_begin_58 (by decide) ?_
          refine zr_iconst i_Mod_begin_59 (v := 0) (by decide) ?_
          refine mn_iastore 3 2 i_Mod_begin_60 (fun _ => rfl) (by decide) (by omega) (by decide) ?_
          refine zr_aload_n i_Mod_begin_61 rfl ?_
          refine zr_getf i_Mod_begin_62 rfl rfl rfl ?_
          refine zn_iconst 0 i_Mod_begin_65 (by decide) ?_
          refine zr_iconst i_Mod_begin_66 (v := 0) (by decide) ?_
          refine mn_iastore 4 2 i_Mod_begin_67 (fun _ => rfl) (by decide) (by omega) (by decide) ?_
          refine zr_aload_n i_Mod_begin_68 rfl ?_
          refine zr_getf i_Mod_begin_69 rfl rfl rfl ?_
          refine zn_iconst 0 i_Mod_begin_72 (by decide) ?_
          refine zr_bipush i_Mod_begin_73 (v := 72) (by decide) ?_
          refine mn_castore 13 1200 i_Mod_begin_75 (fun _ => rfl) (by decide) (by omega) (by decide) ?_
          refine zr_aload_n i_Mod_begin_76 rfl ?_
          refine zr_getf i_Mod_begin_77 rfl rfl rfl ?_
          refine zn_iconst 1 i_Mod_begin_80 (by decide) ?_
          refine zr_bipush i_Mod_begin_81 (v := 68) (by decide) ?_
          refine mn_castore 13 1200 i_Mod_begin_83 (fun _ => rfl) (by decide) (by omega) (by decide) ?_
          refine zr_aload_n i_Mod_begin_84 rfl ?_
          refine zr_getf i_Mod_begin_85 rfl rfl rfl ?_
          refine zn_iconst 2 i_Mod_begin_88 (by decide) ?_
          refine zr_bipush i_Mod_begin_89 (v := 82) (by decide) ?_
          refine mn_castore 13 1200 i_Mod_begin_91 (fun _ => rfl) (by decide) (by omega) (by decide) ?_
          refine zr_aload_n i_Mod_begin_92 rfl ?_
          refine zr_iconst i_Mod_begin_93 (v := 3) (by decide) ?_
          refine mr_putf (kk := 1) i_Mod_begin_94 rfl rfl (Nat.le_of_ble_eq_true rfl) rfl rfl rfl ?_
          refine zr_iload_n i_Mod_begin_97 rfl ?_
          exact zR.retE i_Mod_begin_98 rfl (by
            rw [show mbeg ms = (va_up ms.1 1 3, va_up (va_up (va_up (va_up (va_up (va_up ms.2 2 (upd (ms.2 2) 0 1)) 3 (upd (ms.2 3) 0 0)) 4 (upd (ms.2 4) 0 0)) 13 (upd (ms.2 13) 0 72)) 13 (upd (upd (ms.2 13) 0 72) 1 68)) 13 (upd (upd (upd (ms.2 13) 0 72) 1 68) 2 82)) by unfold mbeg; rw [up_same, up_same]]
            rw [show headF (ms.2 1) n = false by simp [headF, *] <;> omega]
            rfl)
        · skip
          refine zr_iconst i_Mod_begin_41 (v := 1) (by decide) ?_
          refine zr_goto 46 i_Mod_begin_42 (by decide) ?_
          refine zr_istore_n i_Mod_begin_46 rfl ?_
          refine zr_aload_n i_Mod_begin_47 rfl ?_
          refine zr_getf i_Mod_begin_48 rfl rfl rfl ?_
          refine zn_iconst 0 i_Mod_begin_51 (by decide) ?_
          refine zr_iconst i_Mod_begin_52 (v := 1) (by decide) ?_
          refine mn_iastore 2 2 i_Mod_begin_53 (fun _ => rfl) (by decide) (by omega) (by decide) ?_
          refine zr_aload_n i_Mod_begin_54 rfl ?_
          refine zr_getf i_Mod_begin_55 rfl rfl rfl ?_
          refine zn_iconst 0 i_Mod_begin_58 (by decide) ?_
          refine zr_iconst i_Mod_begin_59 (v := 0) (by decide) ?_
          refine mn_iastore 3 2 i_Mod_begin_60 (fun _ => rfl) (by decide) (by omega) (by decide) ?_
          refine zr_aload_n i_Mod_begin_61 rfl ?_
          refine zr_getf i_Mod_begin_62 rfl rfl rfl ?_
          refine zn_iconst 0 i_Mod_begin_65 (by decide) ?_
          refine zr_iconst i_Mod_begin_66 (v := 0) (by decide) ?_
          refine mn_iastore 4 2 i_Mod_begin_67 (fun _ => rfl) (by decide) (by omega) (by decide) ?_
          refine zr_aload_n i_Mod_begin_68 rfl ?_
          refine zr_getf i_Mod_begin_69 rfl rfl rfl ?_
          refine zn_iconst 0 i_Mod_begin_72 (by decide) ?_
          refine zr_bipush i_Mod_begin_73 (v := 72) (by decide) ?_
          refine mn_castore 13 1200 i_Mod_begin_75 (fun _ => rfl) (by decide) (by omega) (by decide) ?_
          refine zr_aload_n i_Mod_begin_76 rfl ?_
          refine zr_getf i_Mod_begin_77 rfl rfl rfl ?_
          refine zn_iconst 1 i_Mod_begin_80 (by decide) ?_
          refine zr_bipush i_Mod_begin_81 (v := 68) (by decide) ?_
          refine mn_castore 13 1200 i_Mod_begin_83 (fun _ => rfl) (by decide) (by omega) (by decide) ?_
          refine zr_aload_n i_Mod_begin_84 rfl ?_
          refine zr_getf i_Mod_begin_85 rfl rfl rfl ?_
          refine zn_iconst 2 i_Mod_begin_88 (by decide) ?_
          refine zr_bipush i_Mod_begin_89 (v := 82) (by decide) ?_
          refine mn_castore 13 1200 i_Mod_begin_91 (fun _ => rfl) (by decide) (by omega) (by decide) ?_
          refine zr_aload_n i_Mod_begin_92 rfl ?_
          refine zr_iconst i_Mod_begin_93 (v := 3) (by decide) ?_
          refine mr_putf (kk := 1) i_Mod_begin_94 rfl rfl (Nat.le_of_ble_eq_true rfl) rfl rfl rfl ?_
          refine zr_iload_n i_Mod_begin_97 rfl ?_
          exact zR.retE i_Mod_begin_98 rfl (by
            rw [show mbeg ms = (va_up ms.1 1 3, va_up (va_up (va_up (va_up (va_up (va_up ms.2 2 (upd (ms.2 2) 0 1)) 3 (upd (ms.2 3) 0 0)) 4 (upd (ms.2 4) 0 0)) 13 (upd (ms.2 13) 0 72)) 13 (upd (upd (ms.2 13) 0 72) 1 68)) 13 (upd (upd (upd (ms.2 13) 0 72) 1 68) 2 82)) by unfold mbeg; rw [up_same, up_same]]
            rw [show headF (ms.2 1) n = true by simp [headF, *] <;> omega]
            rfl)
theorem i_Mod_readSeparators_0 : zins 101 0 = some (.iconst 0) := by decide +kernel
theorem i_Mod_readSeparators_1 : zins 101 1 = some (.istore_n 1) := by decide +kernel
theorem i_Mod_readSeparators_2 : zins 101 2 = some (.iload_n 1) := by decide +kernel
theorem i_Mod_readSeparators_3 : zins 101 3 = some (.iconst 5) := by decide +kernel
theorem i_Mod_readSeparators_4 : zins 101 4 = some (.if_icmp .ge 20) := by decide +kernel
theorem i_Mod_readSeparators_7 : zins 101 7 = some (.aload_n 0) := by decide +kernel
theorem i_Mod_readSeparators_8 : zins 101 8 = some (.getfield 50) := by decide +kernel
theorem i_Mod_readSeparators_11 : zins 101 11 = some (.iload_n 1) := by decide +kernel
theorem i_Mod_readSeparators_12 : zins 101 12 = some (.aload_n 0) := by decide +kernel
theorem i_Mod_readSeparators_13 : zins 101 13 = some (.iload_n 1) := by decide +kernel
theorem i_Mod_readSeparators_14 : zins 101 14 = some (.invokevirtual 115) := by decide +kernel
theorem i_Mod_readSeparators_17 : zins 101 17 = some (.castore) := by decide +kernel
theorem i_Mod_readSeparators_18 : zins 101 18 = some (.iinc 1 1) := by decide +kernel
theorem i_Mod_readSeparators_21 : zins 101 21 = some (.goto (-19)) := by decide +kernel
theorem i_Mod_readSeparators_24 : zins 101 24 = some (.aload_n 0) := by decide +kernel
theorem i_Mod_readSeparators_25 : zins 101 25 = some (.bipush 8) := by decide +kernel
theorem i_Mod_readSeparators_27 : zins 101 27 = some (.putfield 112) := by decide +kernel
theorem i_Mod_readSeparators_30 : zins 101 30 = some (.aload_n 0) := by decide +kernel
theorem i_Mod_readSeparators_31 : zins 101 31 = some (.getfield 50) := by decide +kernel
theorem i_Mod_readSeparators_34 : zins 101 34 = some (.invokestatic 119) := by decide +kernel
theorem i_Mod_readSeparators_37 : zins 101 37 = some (.ireturn) := by decide +kernel
def msep (ms : zMS) (f : Nat → Int32) : zMS := (ms.1, va_up ms.2 14 f)
theorem msep_14 (ms : zMS) (f f' : Nat → Int32) : ((msep ms f).1, va_up (msep ms f).2 14 f') = msep ms f' := by
  unfold msep
  dsimp only
  rw [up_same]
theorem msep_self (ms : zMS) : msep ms (ms.2 14) = ms := by unfold msep; rw [up_self]
/-- the five separators that a frame declares -/
def sepF (F : Nat → Int32) (n : Nat) (f : Nat → Int32) : Nat → Int32 := zpas f 0 (fun k => nowF F n (3 + k)) 5
theorem zch_nar {c : Int32} (h : zch c) : narrow .char (.int c) = .int c := by
  unfold zch vp_nar at h
  have e : narrow .char (.int c) = .int (c.toUInt32.toUInt16.toUInt32.toInt32) := rfl
  rw [e] at h ⊢
  exact congrArg _ h
theorem zch_now {F : Nat → Int32} (h : ∀ i, zch (F i)) (n k : Nat) : zch (nowF F n k) := by
  unfold nowF
  split
  · exact h _
  · exact zch_n (q := 0) (by decide)
theorem l_Mod_readSeparators (X : zX) (d : Nat) (g : zH) (ms : zMS) (n : Nat) (h0 : ms.1 0 = nI n) (hn : n ≤ 200) (h1 : ms.1 1 = nI 3) (hc : ∀ i, zch (ms.2 1 i)) : ∀ (k i : Nat), i + k = 5 → zR X (d + 2) 101 2 [some (.ref 129), some (.int (nI i))] [] (mset g (msep ms (zpas (ms.2 14) 0 (fun k => nowF (ms.2 1) n (3 + k)) i))) (some (.int (zb (fitF (sepF (ms.2 1) n (ms.2 14))))), mset g (va_up ms.1 1 8, va_up ms.2 14 (sepF (ms.2 1) n (ms.2 14)))) := by
  intro k
  induction k with
  | zero =>
    intro i hik
    have hi : i = 5 := by omega
    subst hi
    refine zr_iload_n i_Mod_readSeparators_2 rfl ?_
    refine zn_iconst 5 i_Mod_readSeparators_3 (by decide) ?_
    refine zn_icmp_ge 24 i_Mod_readSeparators_4 (by decide) (by omega) (by omega) (fun c_4 => ?_) (fun q => absurd q (by first | assumption | omega | simp_all))
    refine zr_aload_n i_Mod_readSeparators_24 rfl ?_
    refine zr_bipush i_Mod_readSeparators_25 (v := 8) (by decide) ?_
    refine mr_putf (kk := 1) i_Mod_readSeparators_27 rfl rfl (Nat.le_of_ble_eq_true rfl) rfl rfl rfl ?_
    refine zr_aload_n i_Mod_readSeparators_30 rfl ?_
    refine zr_getf i_Mod_readSeparators_31 rfl rfl rfl ?_
    refine zr_cs1 i_Mod_readSeparators_34 rfl (by decide) (Nat.le_of_ble_eq_true rfl) (Nat.le_of_ble_eq_true rfl) (e_Mod_fitting X _ (mset g (va_up ms.1 1 8, va_up ms.2 14 (sepF (ms.2 1) n (ms.2 14)))) 143 (sepF (ms.2 1) n (ms.2 14)) rfl) ?_
    exact zR.retE i_Mod_readSeparators_37 (zretB _) rfl
  | succ k ih =>
    intro i hik
    refine zr_iload_n i_Mod_readSeparators_2 rfl ?_
    refine zn_iconst 5 i_Mod_readSeparators_3 (by decide) ?_
    refine zn_icmp_ge 24 i_Mod_readSeparators_4 (by decide) (by omega) (by omega) (fun q => absurd q (by first | assumption | omega | simp_all)) (fun c_4 => ?_)
    refine zr_aload_n i_Mod_readSeparators_7 rfl ?_
    refine zr_getf i_Mod_readSeparators_8 rfl rfl rfl ?_
    refine zr_iload_n i_Mod_readSeparators_11 rfl ?_
    refine zr_aload_n i_Mod_readSeparators_12 rfl ?_
    refine zr_iload_n i_Mod_readSeparators_13 rfl ?_
    refine zr_cv1 i_Mod_readSeparators_14 rfl (by decide) rfl (Nat.le_of_ble_eq_true rfl) (Nat.le_of_ble_eq_true rfl) (e_Mod_now X _ g (msep ms (zpas (ms.2 14) 0 (fun k => nowF (ms.2 1) n (3 + k)) i)) n 3 i h0 h1 hn (by omega) (fun i _ => zch_nar (hc i))) ?_
    refine mn_castore 14 5 i_Mod_readSeparators_17 (fun _ => rfl) (by decide) (by omega) (by decide) ?_
    refine zn_iinc i_Mod_readSeparators_18 rfl rfl ?_
    refine zr_goto 2 i_Mod_readSeparators_21 (by decide) ?_
    (have e := ih (i + 1) (by omega)
     rw [← zpas_s, Nat.zero_add, ← msep_14 ms (zpas (ms.2 14) 0 (fun k => nowF (ms.2 1) n (3 + k)) i), ← show vp_nar .char (nowF (ms.2 1) n (3 + i)) = nowF (ms.2 1) n (3 + i) from zch_now hc _ _] at e
     exact e)
theorem e_Mod_readSeparators (X : zX) (d : Nat) (g : zH) (ms : zMS) (n : Nat) (h0 : ms.1 0 = nI n) (hn : n ≤ 200) (h1 : ms.1 1 = nI 3) (hc : ∀ i, zch (ms.2 1 i)) : zR X (d + 2) 101 0 (zent 2 [.ref 129]) [] (mset g ms) (some (.int (zb (fitF (sepF (ms.2 1) n (ms.2 14))))), mset g (va_up ms.1 1 8, va_up ms.2 14 (sepF (ms.2 1) n (ms.2 14)))) := by
  have e := l_Mod_readSeparators X d g ms n h0 hn h1 hc 5 0 rfl
  rw [zpas_0, msep_self] at e
  refine zn_iconst 0 i_Mod_readSeparators_0 (by decide) ?_
  refine zr_istore_n i_Mod_readSeparators_1 rfl ?_
  exact e
end
section
/-! THE REFERENCE: its table of texts as a list -/
abbrev zEn : Type := (Nat × Nat × Nat × Nat × Nat) × List Int32
def flat (E : List zEn) : List Int32 := E.flatMap (fun e => e.2)
def pre (E : List zEn) (t : Nat) : Nat := (flat (E.take t)).length
theorem flat_app (E E' : List zEn) : flat (E ++ E') = flat E ++ flat E' := List.flatMap_append
theorem flat_one (e : zEn) : flat [e] = e.2 := by simp [flat]
/-- row after row, what the table says of a text -/
def mEnt (ms : zMS) (t b : Nat) (e : zEn) : Prop := ms.2 5 t = nI e.1.1 ∧ ms.2 6 t = nI e.1.2.1 ∧ ms.2 7 t = nI e.1.2.2.1 ∧ ms.2 8 t = nI e.1.2.2.2.1 ∧ ms.2 9 t = nI e.1.2.2.2.2 ∧ ms.2 10 t = nI b ∧ ms.2 11 t = nI e.2.length
def mTab (ms : zMS) (E : List zEn) : Prop := ms.2 3 0 = nI E.length ∧ ms.2 4 0 = nI (flat E).length ∧ (∀ t e, E[t]? = some e → mEnt ms t (pre E t) e) ∧ ∀ i x, (flat E)[i]? = some x → ms.2 12 i = x
theorem pre_app {E E' : List zEn} {t : Nat} (h : t ≤ E.length) : pre (E ++ E') t = pre E t := by
  unfold pre
  rw [List.take_append_of_le_length h]
theorem pre_len (E : List zEn) : pre E E.length = (flat E).length := by
  unfold pre
  rw [List.take_length]
theorem mTab_open {ms : zMS} {E : List zEn} {sg : Nat} (h : mTab ms E) (hs : ms.2 2 0 = nI sg) (f r c u : Nat) : mTab (mopen ms E.length (nI f) (nI r) (nI c) (nI u)) (E ++ [((sg, f, r, c, u), [])]) := by
  obtain ⟨h1, h2, h3, h4⟩ := h
  have hfl : flat (E ++ [((sg, f, r, c, u), [])]) = flat E := by rw [flat_app, flat_one, List.append_nil]
  refine ⟨?_, ?_, ?_, ?_⟩
  · rw [List.length_append]
    show upd (ms.2 3) 0 (nI (E.length + 1)) 0 = _
    rw [pk_us]; rfl
  · rw [hfl]; exact h2
  · intro t e he
    rw [List.getElem?_append] at he
    by_cases ht : t < E.length
    · rw [if_pos ht] at he
      rw [pre_app (by omega)]
      obtain ⟨e1, e2, e3, e4, e5, e6, e7⟩ := h3 t e he
      have hne : t ≠ E.length := by omega
      exact ⟨(pk_un hne).trans e1, (pk_un hne).trans e2, (pk_un hne).trans e3, (pk_un hne).trans e4, (pk_un hne).trans e5, (pk_un hne).trans e6, (pk_un hne).trans e7⟩
    · rw [if_neg ht] at he
      have ht2 : t = E.length := by
        rcases Nat.lt_or_ge (t - E.length) 1 with q | q
        · omega
        · rw [List.getElem?_eq_none (by simpa using q)] at he; cases he
      subst ht2
      rw [Nat.sub_self] at he
      cases he
      rw [pre_app (Nat.le_refl _), pre_len]
      exact ⟨pk_us.trans hs, pk_us, pk_us, pk_us, pk_us, pk_us.trans h2, pk_us⟩
  · rw [hfl]; exact h4
theorem mTab_add {ms : zMS} {E : List zEn} {k : Nat × Nat × Nat × Nat × Nat} {cs : List Int32} {x : Int32} (h : mTab ms (E ++ [(k, cs)])) (hx : zch x) : mTab (madd ms (flat (E ++ [(k, cs)])).length (E ++ [(k, cs)]).length x) (E ++ [(k, cs ++ [x])]) := by
  obtain ⟨h1, h2, h3, h4⟩ := h
  have hfl : flat (E ++ [(k, cs ++ [x])]) = flat (E ++ [(k, cs)]) ++ [x] := by
    rw [flat_app, flat_one, flat_app, flat_one, List.append_assoc]
  have hlen : (E ++ [(k, cs)]).length = E.length + 1 := by simp
  refine ⟨?_, ?_, ?_, ?_⟩
  · show ms.2 3 0 = nI (E ++ [(k, cs ++ [x])]).length
    rw [h1, List.length_append, List.length_append]; rfl
  · rw [hfl]
    show upd (ms.2 4) 0 (nI ((flat (E ++ [(k, cs)])).length + 1)) 0 = _
    rw [pk_us, List.length_append]; rfl
  · intro t e he
    rw [List.getElem?_append] at he
    by_cases ht : t < E.length
    · rw [if_pos ht] at he
      rw [pre_app (by omega)]
      obtain ⟨e1, e2, e3, e4, e5, e6, e7⟩ := h3 t e (by rw [List.getElem?_append, if_pos ht]; exact he)
      rw [pre_app (by omega)] at e6
      refine ⟨e1, e2, e3, e4, e5, e6, ?_⟩
      show upd (ms.2 11) ((E ++ [(k, cs)]).length - 1) _ t = _
      rw [pk_un (by rw [hlen]; omega)]
      exact e7
    · rw [if_neg ht] at he
      have ht2 : t = E.length := by
        rcases Nat.lt_or_ge (t - E.length) 1 with q | q
        · omega
        · rw [List.getElem?_eq_none (by simpa using q)] at he; cases he
      subst ht2
      rw [Nat.sub_self] at he
      cases he
      obtain ⟨e1, e2, e3, e4, e5, e6, e7⟩ := h3 E.length (k, cs) (by rw [List.getElem?_append, if_neg (by omega), Nat.sub_self]; rfl)
      rw [pre_app (Nat.le_refl _)] at e6 ⊢
      refine ⟨e1, e2, e3, e4, e5, e6, ?_⟩
      show upd (ms.2 11) ((E ++ [(k, cs)]).length - 1) (ms.2 11 ((E ++ [(k, cs)]).length - 1) + 1) E.length = nI (cs ++ [x]).length
      rw [hlen, Nat.add_sub_cancel, pk_us, e7, List.length_append]
      exact nI_1 _
  · intro i y hy
    rw [hfl, List.getElem?_append] at hy
    show upd (ms.2 12) (flat (E ++ [(k, cs)])).length (vp_nar .char x) i = y
    by_cases hi : i < (flat (E ++ [(k, cs)])).length
    · rw [if_pos hi] at hy
      rw [pk_un (by omega)]
      exact h4 i y hy
    · rw [if_neg hi] at hy
      have ht2 : i = (flat (E ++ [(k, cs)])).length := by
        rcases Nat.lt_or_ge (i - (flat (E ++ [(k, cs)])).length) 1 with q | q
        · omega
        · rw [List.getElem?_eq_none (by simpa using q)] at hy; cases hy
      subst ht2
      rw [Nat.sub_self] at hy
      cases hy
      rw [pk_us]
      exact hx
/-- all is as it was but table 0 and the place in the frame -/
def mpar (ms ms' : zMS) : Prop := (∀ k, k ≠ 1 → ms'.1 k = ms.1 k) ∧ (∀ k, (k < 2 ∨ 13 < k) → ms'.2 k = ms.2 k) ∧ (∀ k, 2 ≤ k → k ≤ 4 → ∀ i, i ≠ 0 → ms'.2 k i = ms.2 k i) ∧ (∀ k, 5 ≤ k → k ≤ 11 → ∀ i, 220 ≤ i → ms'.2 k i = ms.2 k i) ∧ (∀ i, 200 ≤ i → ms'.2 12 i = ms.2 12 i) ∧ (∀ i, 600 ≤ i → ms'.2 13 i = ms.2 13 i) ∧ ((∀ i, zch (ms.2 12 i)) → ∀ i, zch (ms'.2 12 i)) ∧ ((∀ i, zch (ms.2 13 i)) → ∀ i, zch (ms'.2 13 i))
theorem mpar.n {ms ms' : zMS} (h : mpar ms ms') : ∀ k, k ≠ 1 → ms'.1 k = ms.1 k := h.1
theorem mpar.r {ms ms' : zMS} (h : mpar ms ms') : ∀ k, (k < 2 ∨ 13 < k) → ms'.2 k = ms.2 k := h.2.1
theorem mpar.a {ms ms' : zMS} (h : mpar ms ms') : ∀ k, 2 ≤ k → k ≤ 4 → ∀ i, i ≠ 0 → ms'.2 k i = ms.2 k i := h.2.2.1
theorem mpar.b {ms ms' : zMS} (h : mpar ms ms') : ∀ k, 5 ≤ k → k ≤ 11 → ∀ i, 220 ≤ i → ms'.2 k i = ms.2 k i := h.2.2.2.1
theorem mpar.l {ms ms' : zMS} (h : mpar ms ms') : ∀ i, 200 ≤ i → ms'.2 12 i = ms.2 12 i := h.2.2.2.2.1
theorem mpar.m {ms ms' : zMS} (h : mpar ms ms') : ∀ i, 600 ≤ i → ms'.2 13 i = ms.2 13 i := h.2.2.2.2.2.1
theorem mpar.cl {ms ms' : zMS} (h : mpar ms ms') : (∀ i, zch (ms.2 12 i)) → ∀ i, zch (ms'.2 12 i) := h.2.2.2.2.2.2.1
theorem mpar.cm {ms ms' : zMS} (h : mpar ms ms') : (∀ i, zch (ms.2 13 i)) → ∀ i, zch (ms'.2 13 i) := h.2.2.2.2.2.2.2
theorem mpar.refl (ms : zMS) : mpar ms ms := ⟨fun _ _ => rfl, fun _ _ => rfl, fun _ _ _ _ _ => rfl, fun _ _ _ _ _ => rfl, fun _ _ => rfl, fun _ _ => rfl, fun h => h, fun h => h⟩
theorem mpar.trans {a b c : zMS} (h1 : mpar a b) (h2 : mpar b c) : mpar a c :=
  ⟨fun k hk => (h2.n k hk).trans (h1.n k hk), fun k hk => (h2.r k hk).trans (h1.r k hk), fun k p q i hi => (h2.a k p q i hi).trans (h1.a k p q i hi), fun k p q i hi => (h2.b k p q i hi).trans (h1.b k p q i hi), fun i hi => (h2.l i hi).trans (h1.l i hi), fun i hi => (h2.m i hi).trans (h1.m i hi), fun h => h2.cl (h1.cl h), fun h => h2.cm (h1.cm h)⟩
theorem zch_vp (x : Int32) : zch (vp_nar .char x) := by
  show vp_nar .char (vp_nar .char x) = vp_nar .char x
  have e : ∀ y : Int32, vp_nar .char y = (y.toUInt32 % 65536).toInt32 := by
    intro y
    rw [vp_nar_char]
    rfl
  rw [e x]
  exact pk_vc x
theorem mpar_at (ms : zMS) (v : Int32) : mpar ms (va_up ms.1 1 v, ms.2) := ⟨fun k hk => va_up_ne _ _ hk, fun _ _ => rfl, fun _ _ _ _ _ => rfl, fun _ _ _ _ _ => rfl, fun _ _ => rfl, fun _ _ => rfl, fun h => h, fun h => h⟩
theorem mpar_add (ms : zMS) (c t : Nat) (x : Int32) (hc : c < 200) (ht : t ≤ 220) (h0 : 1 ≤ t) : mpar ms (madd ms c t x) := by
  have hr : ∀ k, k ≠ 12 → k ≠ 4 → k ≠ 11 → (madd ms c t x).2 k = ms.2 k := by
    intro k h1 h2 h3
    show va_up (va_up (va_up ms.2 12 _) 4 _) 11 _ k = _
    rw [va_up_ne _ _ h3, va_up_ne _ _ h2, va_up_ne _ _ h1]
  refine ⟨fun _ _ => rfl, fun k hk => hr k (by omega) (by omega) (by omega), ?_, ?_, ?_, ?_, ?_, ?_⟩
  · intro k h1 h2 i hi
    by_cases h4 : k = 4
    · subst h4; exact pk_un hi
    · rw [hr k (by omega) h4 (by omega)]
  · intro k h1 h2 i hi
    by_cases h4 : k = 11
    · subst h4; exact pk_un (by omega)
    · rw [hr k (by omega) (by omega) h4]
  · intro i hi
    exact pk_un (by omega)
  · intro i hi
    rw [hr 13 (by omega) (by omega) (by omega)]
  · intro h i
    show zch (upd (ms.2 12) c (vp_nar .char x) i)
    by_cases hi : i = c
    · subst hi; rw [pk_us]; exact zch_vp x
    · rw [pk_un hi]; exact h i
  · intro h i
    rw [hr 13 (by omega) (by omega) (by omega)]; exact h i
theorem mpar_open (ms : zMS) (t : Nat) (f r c s : Int32) (ht : t < 220) : mpar ms (mopen ms t f r c s) := by
  have hr : ∀ k, k ≠ 3 → ¬ (5 ≤ k ∧ k ≤ 11) → (mopen ms t f r c s).2 k = ms.2 k := by
    intro k h1 h2
    show va_up (va_up (va_up (va_up (va_up (va_up (va_up (va_up ms.2 5 _) 6 _) 7 _) 8 _) 9 _) 10 _) 11 _) 3 _ k = _
    rw [va_up_ne _ _ h1, va_up_ne _ _ (by omega), va_up_ne _ _ (by omega), va_up_ne _ _ (by omega), va_up_ne _ _ (by omega), va_up_ne _ _ (by omega), va_up_ne _ _ (by omega), va_up_ne _ _ (by omega)]
  refine ⟨fun _ _ => rfl, fun k hk => hr k (by omega) (by omega), ?_, ?_, ?_, ?_, ?_, ?_⟩
  · intro k h1 h2 i hi
    by_cases h4 : k = 3
    · subst h4; exact pk_un hi
    · rw [hr k h4 (by omega)]
  · intro k h1 h2 i hi
    have hne : i ≠ t := by omega
    rcases (show k = 5 ∨ k = 6 ∨ k = 7 ∨ k = 8 ∨ k = 9 ∨ k = 10 ∨ k = 11 by omega) with rfl | rfl | rfl | rfl | rfl | rfl | rfl <;> exact pk_un hne
  · intro i hi
    rw [hr 12 (by omega) (by omega)]
  · intro i hi
    rw [hr 13 (by omega) (by omega)]
  · intro h i
    rw [hr 12 (by omega) (by omega)]; exact h i
  · intro h i
    rw [hr 13 (by omega) (by omega)]; exact h i
end
