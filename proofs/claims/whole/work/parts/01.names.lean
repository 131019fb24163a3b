/-- a private method of a class that the tables say can be made, by its rows of tables_1 -/
def lw_okq (q : MethodName × Nat) : Prop := (q.1.cls ≠ "java/lang/invoke/MethodHandle" ∧ q.1.cls ≠ "java/lang/invoke/VarHandle") ∧ Cond.instantiable q.1.cls q.2 ∈ tables_1 ∧ Cond.privateMethod q.1 ∈ tables_1 ∧ Cond.instanceMethod q.1 ∈ tables_1
theorem lw_p0 : lw_okq (⟨"MayReadPencil", "refuse", "(I)I"⟩, 8) := ⟨⟨by decide +kernel, by decide +kernel⟩, List.mem_of_getElem? (i := 16) (by decide +kernel), List.mem_of_getElem? (i := 226) (by decide +kernel), List.mem_of_getElem? (i := 227) (by decide +kernel)⟩
theorem lw_p1 : lw_okq (⟨"MayReadPencil$Bag", "put", "(ILMayReadPencil$Bag;I)V"⟩, 6) := ⟨⟨by decide +kernel, by decide +kernel⟩, List.mem_of_getElem? (i := 64) (by decide +kernel), List.mem_of_getElem? (i := 254) (by decide +kernel), List.mem_of_getElem? (i := 255) (by decide +kernel)⟩
theorem lw_p2 : lw_okq (⟨"MayReadPencil$Post", "firstWrongLetter", "()I"⟩, 2) := ⟨⟨by decide +kernel, by decide +kernel⟩, List.mem_of_getElem? (i := 43) (by decide +kernel), List.mem_of_getElem? (i := 262) (by decide +kernel), List.mem_of_getElem? (i := 263) (by decide +kernel)⟩
theorem lw_p3 : lw_okq (⟨"MayReadPencil$Post", "tell", "(LMayReadPencil$Village;I)Z"⟩, 2) := ⟨⟨by decide +kernel, by decide +kernel⟩, List.mem_of_getElem? (i := 43) (by decide +kernel), List.mem_of_getElem? (i := 272) (by decide +kernel), List.mem_of_getElem? (i := 273) (by decide +kernel)⟩
theorem lw_p4 : lw_okq (⟨"MayReadPencil$Post", "digit", "(I)I"⟩, 2) := ⟨⟨by decide +kernel, by decide +kernel⟩, List.mem_of_getElem? (i := 43) (by decide +kernel), List.mem_of_getElem? (i := 276) (by decide +kernel), List.mem_of_getElem? (i := 277) (by decide +kernel)⟩
theorem lw_p5 : lw_okq (⟨"MayReadPencil$Post", "twoDigits", "(I)I"⟩, 2) := ⟨⟨by decide +kernel, by decide +kernel⟩, List.mem_of_getElem? (i := 43) (by decide +kernel), List.mem_of_getElem? (i := 280) (by decide +kernel), List.mem_of_getElem? (i := 281) (by decide +kernel)⟩
theorem lw_p6 : lw_okq (⟨"MayReadPencil$Village", "haveFirstLetters", "()V"⟩, 16) := ⟨⟨by decide +kernel, by decide +kernel⟩, List.mem_of_getElem? (i := 58) (by decide +kernel), List.mem_of_getElem? (i := 327) (by decide +kernel), List.mem_of_getElem? (i := 328) (by decide +kernel)⟩
theorem lw_p7 : lw_okq (⟨"MayReadPencil$Village", "haveLetter", "(I)Z"⟩, 16) := ⟨⟨by decide +kernel, by decide +kernel⟩, List.mem_of_getElem? (i := 58) (by decide +kernel), List.mem_of_getElem? (i := 334) (by decide +kernel), List.mem_of_getElem? (i := 335) (by decide +kernel)⟩
theorem lw_p8 : lw_okq (⟨"MayReadPencil$Village", "afterRubbing", "(JJ)J"⟩, 16) := ⟨⟨by decide +kernel, by decide +kernel⟩, List.mem_of_getElem? (i := 58) (by decide +kernel), List.mem_of_getElem? (i := 342) (by decide +kernel), List.mem_of_getElem? (i := 343) (by decide +kernel)⟩
theorem lw_p9 : lw_okq (⟨"MayReadPencil$Village", "writeIfDue", "(I)V"⟩, 16) := ⟨⟨by decide +kernel, by decide +kernel⟩, List.mem_of_getElem? (i := 58) (by decide +kernel), List.mem_of_getElem? (i := 361) (by decide +kernel), List.mem_of_getElem? (i := 362) (by decide +kernel)⟩
theorem lw_p10 : lw_okq (⟨"MayReadPencil$Village", "hasOtherFriend", "(I)Z"⟩, 16) := ⟨⟨by decide +kernel, by decide +kernel⟩, List.mem_of_getElem? (i := 58) (by decide +kernel), List.mem_of_getElem? (i := 371) (by decide +kernel), List.mem_of_getElem? (i := 372) (by decide +kernel)⟩
theorem lw_p11 : lw_okq (⟨"MayReadPencil", "isThere", "(I)Z"⟩, 8) := ⟨⟨by decide +kernel, by decide +kernel⟩, List.mem_of_getElem? (i := 16) (by decide +kernel), List.mem_of_getElem? (i := 435) (by decide +kernel), List.mem_of_getElem? (i := 436) (by decide +kernel)⟩
theorem lw_p12 : lw_okq (⟨"MayReadPencil", "isThereOrShe", "(I)Z"⟩, 8) := ⟨⟨by decide +kernel, by decide +kernel⟩, List.mem_of_getElem? (i := 16) (by decide +kernel), List.mem_of_getElem? (i := 448) (by decide +kernel), List.mem_of_getElem? (i := 449) (by decide +kernel)⟩
theorem lw_p13 : lw_okq (⟨"MayReadPencil", "isInBag", "(I)Z"⟩, 8) := ⟨⟨by decide +kernel, by decide +kernel⟩, List.mem_of_getElem? (i := 16) (by decide +kernel), List.mem_of_getElem? (i := 471) (by decide +kernel), List.mem_of_getElem? (i := 472) (by decide +kernel)⟩
theorem lw_p14 : lw_okq (⟨"MayReadPencil$Foresight", "knownIfSheKnew", "(III)I"⟩, 4) := ⟨⟨by decide +kernel, by decide +kernel⟩, List.mem_of_getElem? (i := 169) (by decide +kernel), List.mem_of_getElem? (i := 590) (by decide +kernel), List.mem_of_getElem? (i := 591) (by decide +kernel)⟩
theorem lw_p15 : lw_okq (⟨"MayReadPencil$Foresight", "passInInk", "(II)V"⟩, 4) := ⟨⟨by decide +kernel, by decide +kernel⟩, List.mem_of_getElem? (i := 169) (by decide +kernel), List.mem_of_getElem? (i := 618) (by decide +kernel), List.mem_of_getElem? (i := 619) (by decide +kernel)⟩
def lw_privs_1 : List (MethodName × Nat) := [(⟨"MayReadPencil", "refuse", "(I)I"⟩, 8), (⟨"MayReadPencil$Bag", "put", "(ILMayReadPencil$Bag;I)V"⟩, 6), (⟨"MayReadPencil$Post", "firstWrongLetter", "()I"⟩, 2), (⟨"MayReadPencil$Post", "tell", "(LMayReadPencil$Village;I)Z"⟩, 2), (⟨"MayReadPencil$Post", "digit", "(I)I"⟩, 2), (⟨"MayReadPencil$Post", "twoDigits", "(I)I"⟩, 2), (⟨"MayReadPencil$Village", "haveFirstLetters", "()V"⟩, 16), (⟨"MayReadPencil$Village", "haveLetter", "(I)Z"⟩, 16), (⟨"MayReadPencil$Village", "afterRubbing", "(JJ)J"⟩, 16), (⟨"MayReadPencil$Village", "writeIfDue", "(I)V"⟩, 16), (⟨"MayReadPencil$Village", "hasOtherFriend", "(I)Z"⟩, 16), (⟨"MayReadPencil", "isThere", "(I)Z"⟩, 8), (⟨"MayReadPencil", "isThereOrShe", "(I)Z"⟩, 8), (⟨"MayReadPencil", "isInBag", "(I)Z"⟩, 8), (⟨"MayReadPencil$Foresight", "knownIfSheKnew", "(III)I"⟩, 4), (⟨"MayReadPencil$Foresight", "passInInk", "(II)V"⟩, 4)]
theorem lw_r1 : ∀ q ∈ lw_privs_1, lw_okq q := List.forall_mem_cons.mpr ⟨lw_p0, List.forall_mem_cons.mpr ⟨lw_p1, List.forall_mem_cons.mpr ⟨lw_p2, List.forall_mem_cons.mpr ⟨lw_p3, List.forall_mem_cons.mpr ⟨lw_p4, List.forall_mem_cons.mpr ⟨lw_p5, List.forall_mem_cons.mpr ⟨lw_p6, List.forall_mem_cons.mpr ⟨lw_p7, List.forall_mem_cons.mpr ⟨lw_p8, List.forall_mem_cons.mpr ⟨lw_p9, List.forall_mem_cons.mpr ⟨lw_p10, List.forall_mem_cons.mpr ⟨lw_p11, List.forall_mem_cons.mpr ⟨lw_p12, List.forall_mem_cons.mpr ⟨lw_p13, List.forall_mem_cons.mpr ⟨lw_p14, List.forall_mem_cons.mpr ⟨lw_p15, fun _ h => absurd h List.not_mem_nil⟩⟩⟩⟩⟩⟩⟩⟩⟩⟩⟩⟩⟩⟩⟩⟩
theorem lw_p16 : lw_okq (⟨"MayReadPencil$Foresight", "knownIfExchanged", "(III)I"⟩, 4) := ⟨⟨by decide +kernel, by decide +kernel⟩, List.mem_of_getElem? (i := 169) (by decide +kernel), List.mem_of_getElem? (i := 640) (by decide +kernel), List.mem_of_getElem? (i := 641) (by decide +kernel)⟩
theorem lw_p17 : lw_okq (⟨"MayReadPencil", "kindsByRow", "(I)I"⟩, 8) := ⟨⟨by decide +kernel, by decide +kernel⟩, List.mem_of_getElem? (i := 16) (by decide +kernel), List.mem_of_getElem? (i := 661) (by decide +kernel), List.mem_of_getElem? (i := 662) (by decide +kernel)⟩
theorem lw_p18 : lw_okq (⟨"MayReadPencil", "rowTellsLeads", "(II)Z"⟩, 8) := ⟨⟨by decide +kernel, by decide +kernel⟩, List.mem_of_getElem? (i := 16) (by decide +kernel), List.mem_of_getElem? (i := 665) (by decide +kernel), List.mem_of_getElem? (i := 666) (by decide +kernel)⟩
theorem lw_p19 : lw_okq (⟨"MayReadPencil", "figuresByRow", "(I)I"⟩, 8) := ⟨⟨by decide +kernel, by decide +kernel⟩, List.mem_of_getElem? (i := 16) (by decide +kernel), List.mem_of_getElem? (i := 670) (by decide +kernel), List.mem_of_getElem? (i := 671) (by decide +kernel)⟩
theorem lw_p20 : lw_okq (⟨"MayReadPencil$Foresight", "goesByRow", "(I[II)Z"⟩, 4) := ⟨⟨by decide +kernel, by decide +kernel⟩, List.mem_of_getElem? (i := 169) (by decide +kernel), List.mem_of_getElem? (i := 682) (by decide +kernel), List.mem_of_getElem? (i := 683) (by decide +kernel)⟩
theorem lw_p21 : lw_okq (⟨"MayReadPencil", "areTwo", "(II)Z"⟩, 8) := ⟨⟨by decide +kernel, by decide +kernel⟩, List.mem_of_getElem? (i := 16) (by decide +kernel), List.mem_of_getElem? (i := 690) (by decide +kernel), List.mem_of_getElem? (i := 691) (by decide +kernel)⟩
theorem lw_p22 : lw_okq (⟨"MayReadPencil$Foresight", "gain", "(I)I"⟩, 4) := ⟨⟨by decide +kernel, by decide +kernel⟩, List.mem_of_getElem? (i := 169) (by decide +kernel), List.mem_of_getElem? (i := 698) (by decide +kernel), List.mem_of_getElem? (i := 699) (by decide +kernel)⟩
theorem lw_p23 : lw_okq (⟨"MayReadPencil$Bag", "lettersFrom", "(I)I"⟩, 6) := ⟨⟨by decide +kernel, by decide +kernel⟩, List.mem_of_getElem? (i := 64) (by decide +kernel), List.mem_of_getElem? (i := 787) (by decide +kernel), List.mem_of_getElem? (i := 788) (by decide +kernel)⟩
theorem lw_p24 : lw_okq (⟨"MayReadPencilModel", "no", "(I)I"⟩, 43) := ⟨⟨by decide +kernel, by decide +kernel⟩, List.mem_of_getElem? (i := 840) (by decide +kernel), List.mem_of_getElem? (i := 983) (by decide +kernel), List.mem_of_getElem? (i := 984) (by decide +kernel)⟩
theorem lw_p25 : lw_okq (⟨"MayReadPencilModel", "statement", "()Z"⟩, 43) := ⟨⟨by decide +kernel, by decide +kernel⟩, List.mem_of_getElem? (i := 840) (by decide +kernel), List.mem_of_getElem? (i := 991) (by decide +kernel), List.mem_of_getElem? (i := 992) (by decide +kernel)⟩
theorem lw_p26 : lw_okq (⟨"MayReadPencilModel", "sign", "()I"⟩, 43) := ⟨⟨by decide +kernel, by decide +kernel⟩, List.mem_of_getElem? (i := 840) (by decide +kernel), List.mem_of_getElem? (i := 995) (by decide +kernel), List.mem_of_getElem? (i := 996) (by decide +kernel)⟩
theorem lw_p27 : lw_okq (⟨"MayReadPencilModel", "readsAll", "(I)Z"⟩, 43) := ⟨⟨by decide +kernel, by decide +kernel⟩, List.mem_of_getElem? (i := 840) (by decide +kernel), List.mem_of_getElem? (i := 999) (by decide +kernel), List.mem_of_getElem? (i := 1000) (by decide +kernel)⟩
theorem lw_p28 : lw_okq (⟨"MayReadPencilModel", "readsDigits", "(I)Z"⟩, 43) := ⟨⟨by decide +kernel, by decide +kernel⟩, List.mem_of_getElem? (i := 840) (by decide +kernel), List.mem_of_getElem? (i := 1003) (by decide +kernel), List.mem_of_getElem? (i := 1004) (by decide +kernel)⟩
theorem lw_p29 : lw_okq (⟨"MayReadPencilModel", "passesAll", "(IZ)V"⟩, 43) := ⟨⟨by decide +kernel, by decide +kernel⟩, List.mem_of_getElem? (i := 840) (by decide +kernel), List.mem_of_getElem? (i := 1010) (by decide +kernel), List.mem_of_getElem? (i := 1011) (by decide +kernel)⟩
theorem lw_p30 : lw_okq (⟨"MayReadPencilModel", "passes", "([I)V"⟩, 43) := ⟨⟨by decide +kernel, by decide +kernel⟩, List.mem_of_getElem? (i := 840) (by decide +kernel), List.mem_of_getElem? (i := 1014) (by decide +kernel), List.mem_of_getElem? (i := 1015) (by decide +kernel)⟩
theorem lw_p31 : lw_okq (⟨"MayReadPencilModel", "passOne", "(I)I"⟩, 43) := ⟨⟨by decide +kernel, by decide +kernel⟩, List.mem_of_getElem? (i := 840) (by decide +kernel), List.mem_of_getElem? (i := 1018) (by decide +kernel), List.mem_of_getElem? (i := 1019) (by decide +kernel)⟩
def lw_privs_2 : List (MethodName × Nat) := [(⟨"MayReadPencil$Foresight", "knownIfExchanged", "(III)I"⟩, 4), (⟨"MayReadPencil", "kindsByRow", "(I)I"⟩, 8), (⟨"MayReadPencil", "rowTellsLeads", "(II)Z"⟩, 8), (⟨"MayReadPencil", "figuresByRow", "(I)I"⟩, 8), (⟨"MayReadPencil$Foresight", "goesByRow", "(I[II)Z"⟩, 4), (⟨"MayReadPencil", "areTwo", "(II)Z"⟩, 8), (⟨"MayReadPencil$Foresight", "gain", "(I)I"⟩, 4), (⟨"MayReadPencil$Bag", "lettersFrom", "(I)I"⟩, 6), (⟨"MayReadPencilModel", "no", "(I)I"⟩, 43), (⟨"MayReadPencilModel", "statement", "()Z"⟩, 43), (⟨"MayReadPencilModel", "sign", "()I"⟩, 43), (⟨"MayReadPencilModel", "readsAll", "(I)Z"⟩, 43), (⟨"MayReadPencilModel", "readsDigits", "(I)Z"⟩, 43), (⟨"MayReadPencilModel", "passesAll", "(IZ)V"⟩, 43), (⟨"MayReadPencilModel", "passes", "([I)V"⟩, 43), (⟨"MayReadPencilModel", "passOne", "(I)I"⟩, 43)]
theorem lw_r2 : ∀ q ∈ lw_privs_2, lw_okq q := List.forall_mem_cons.mpr ⟨lw_p16, List.forall_mem_cons.mpr ⟨lw_p17, List.forall_mem_cons.mpr ⟨lw_p18, List.forall_mem_cons.mpr ⟨lw_p19, List.forall_mem_cons.mpr ⟨lw_p20, List.forall_mem_cons.mpr ⟨lw_p21, List.forall_mem_cons.mpr ⟨lw_p22, List.forall_mem_cons.mpr ⟨lw_p23, List.forall_mem_cons.mpr ⟨lw_p24, List.forall_mem_cons.mpr ⟨lw_p25, List.forall_mem_cons.mpr ⟨lw_p26, List.forall_mem_cons.mpr ⟨lw_p27, List.forall_mem_cons.mpr ⟨lw_p28, List.forall_mem_cons.mpr ⟨lw_p29, List.forall_mem_cons.mpr ⟨lw_p30, List.forall_mem_cons.mpr ⟨lw_p31, fun _ h => absurd h List.not_mem_nil⟩⟩⟩⟩⟩⟩⟩⟩⟩⟩⟩⟩⟩⟩⟩⟩
theorem lw_p32 : lw_okq (⟨"MayReadPencilModel", "passesSets", "([J)V"⟩, 43) := ⟨⟨by decide +kernel, by decide +kernel⟩, List.mem_of_getElem? (i := 840) (by decide +kernel), List.mem_of_getElem? (i := 1022) (by decide +kernel), List.mem_of_getElem? (i := 1023) (by decide +kernel)⟩
theorem lw_p33 : lw_okq (⟨"MayReadPencilModel", "passSet", "(J)J"⟩, 43) := ⟨⟨by decide +kernel, by decide +kernel⟩, List.mem_of_getElem? (i := 840) (by decide +kernel), List.mem_of_getElem? (i := 1026) (by decide +kernel), List.mem_of_getElem? (i := 1027) (by decide +kernel)⟩
theorem lw_p34 : lw_okq (⟨"MayReadPencilModel", "comesTold", "(I)Z"⟩, 43) := ⟨⟨by decide +kernel, by decide +kernel⟩, List.mem_of_getElem? (i := 840) (by decide +kernel), List.mem_of_getElem? (i := 1030) (by decide +kernel), List.mem_of_getElem? (i := 1031) (by decide +kernel)⟩
theorem lw_p35 : lw_okq (⟨"MayReadPencilModel", "comesPerson", "(II)Z"⟩, 43) := ⟨⟨by decide +kernel, by decide +kernel⟩, List.mem_of_getElem? (i := 840) (by decide +kernel), List.mem_of_getElem? (i := 1034) (by decide +kernel), List.mem_of_getElem? (i := 1035) (by decide +kernel)⟩
theorem lw_p36 : lw_okq (⟨"MayReadPencilModel", "isMore", "(II)V"⟩, 43) := ⟨⟨by decide +kernel, by decide +kernel⟩, List.mem_of_getElem? (i := 840) (by decide +kernel), List.mem_of_getElem? (i := 1038) (by decide +kernel), List.mem_of_getElem? (i := 1039) (by decide +kernel)⟩
theorem lw_p37 : lw_okq (⟨"MayReadPencilModel", "comesFriend", "(II)Z"⟩, 43) := ⟨⟨by decide +kernel, by decide +kernel⟩, List.mem_of_getElem? (i := 840) (by decide +kernel), List.mem_of_getElem? (i := 1042) (by decide +kernel), List.mem_of_getElem? (i := 1043) (by decide +kernel)⟩
theorem lw_p38 : lw_okq (⟨"MayReadPencilModel", "isPerson", "(I)Z"⟩, 43) := ⟨⟨by decide +kernel, by decide +kernel⟩, List.mem_of_getElem? (i := 840) (by decide +kernel), List.mem_of_getElem? (i := 1046) (by decide +kernel), List.mem_of_getElem? (i := 1047) (by decide +kernel)⟩
theorem lw_p39 : lw_okq (⟨"MayReadPencilModel", "comesKnowing", "(II)Z"⟩, 43) := ⟨⟨by decide +kernel, by decide +kernel⟩, List.mem_of_getElem? (i := 840) (by decide +kernel), List.mem_of_getElem? (i := 1050) (by decide +kernel), List.mem_of_getElem? (i := 1051) (by decide +kernel)⟩
theorem lw_p40 : lw_okq (⟨"MayReadPencilModel", "isKnower", "(I)Z"⟩, 43) := ⟨⟨by decide +kernel, by decide +kernel⟩, List.mem_of_getElem? (i := 840) (by decide +kernel), List.mem_of_getElem? (i := 1054) (by decide +kernel), List.mem_of_getElem? (i := 1055) (by decide +kernel)⟩
theorem lw_p41 : lw_okq (⟨"MayReadPencilModel", "comesForbidding", "(I)Z"⟩, 43) := ⟨⟨by decide +kernel, by decide +kernel⟩, List.mem_of_getElem? (i := 840) (by decide +kernel), List.mem_of_getElem? (i := 1058) (by decide +kernel), List.mem_of_getElem? (i := 1059) (by decide +kernel)⟩
theorem lw_p42 : lw_okq (⟨"MayReadPencilModel", "comesNumber", "(II)Z"⟩, 43) := ⟨⟨by decide +kernel, by decide +kernel⟩, List.mem_of_getElem? (i := 840) (by decide +kernel), List.mem_of_getElem? (i := 1062) (by decide +kernel), List.mem_of_getElem? (i := 1063) (by decide +kernel)⟩
theorem lw_p43 : lw_okq (⟨"MayReadPencilModel", "goes", "(I)V"⟩, 43) := ⟨⟨by decide +kernel, by decide +kernel⟩, List.mem_of_getElem? (i := 840) (by decide +kernel), List.mem_of_getElem? (i := 1066) (by decide +kernel), List.mem_of_getElem? (i := 1067) (by decide +kernel)⟩
theorem lw_p44 : lw_okq (⟨"MayReadPencilModel", "goesDay", "()V"⟩, 43) := ⟨⟨by decide +kernel, by decide +kernel⟩, List.mem_of_getElem? (i := 840) (by decide +kernel), List.mem_of_getElem? (i := 1070) (by decide +kernel), List.mem_of_getElem? (i := 1071) (by decide +kernel)⟩
theorem lw_p45 : lw_okq (⟨"MayReadPencilModel", "hasLetter", "(I)V"⟩, 43) := ⟨⟨by decide +kernel, by decide +kernel⟩, List.mem_of_getElem? (i := 840) (by decide +kernel), List.mem_of_getElem? (i := 1074) (by decide +kernel), List.mem_of_getElem? (i := 1075) (by decide +kernel)⟩
theorem lw_p46 : lw_okq (⟨"MayReadPencilModel", "leftOf", "(I)J"⟩, 43) := ⟨⟨by decide +kernel, by decide +kernel⟩, List.mem_of_getElem? (i := 840) (by decide +kernel), List.mem_of_getElem? (i := 1078) (by decide +kernel), List.mem_of_getElem? (i := 1079) (by decide +kernel)⟩
theorem lw_p47 : lw_okq (⟨"MayReadPencilModel", "putIn", "(I)J"⟩, 43) := ⟨⟨by decide +kernel, by decide +kernel⟩, List.mem_of_getElem? (i := 840) (by decide +kernel), List.mem_of_getElem? (i := 1092) (by decide +kernel), List.mem_of_getElem? (i := 1093) (by decide +kernel)⟩
def lw_privs_3 : List (MethodName × Nat) := [(⟨"MayReadPencilModel", "passesSets", "([J)V"⟩, 43), (⟨"MayReadPencilModel", "passSet", "(J)J"⟩, 43), (⟨"MayReadPencilModel", "comesTold", "(I)Z"⟩, 43), (⟨"MayReadPencilModel", "comesPerson", "(II)Z"⟩, 43), (⟨"MayReadPencilModel", "isMore", "(II)V"⟩, 43), (⟨"MayReadPencilModel", "comesFriend", "(II)Z"⟩, 43), (⟨"MayReadPencilModel", "isPerson", "(I)Z"⟩, 43), (⟨"MayReadPencilModel", "comesKnowing", "(II)Z"⟩, 43), (⟨"MayReadPencilModel", "isKnower", "(I)Z"⟩, 43), (⟨"MayReadPencilModel", "comesForbidding", "(I)Z"⟩, 43), (⟨"MayReadPencilModel", "comesNumber", "(II)Z"⟩, 43), (⟨"MayReadPencilModel", "goes", "(I)V"⟩, 43), (⟨"MayReadPencilModel", "goesDay", "()V"⟩, 43), (⟨"MayReadPencilModel", "hasLetter", "(I)V"⟩, 43), (⟨"MayReadPencilModel", "leftOf", "(I)J"⟩, 43), (⟨"MayReadPencilModel", "putIn", "(I)J"⟩, 43)]
theorem lw_r3 : ∀ q ∈ lw_privs_3, lw_okq q := List.forall_mem_cons.mpr ⟨lw_p32, List.forall_mem_cons.mpr ⟨lw_p33, List.forall_mem_cons.mpr ⟨lw_p34, List.forall_mem_cons.mpr ⟨lw_p35, List.forall_mem_cons.mpr ⟨lw_p36, List.forall_mem_cons.mpr ⟨lw_p37, List.forall_mem_cons.mpr ⟨lw_p38, List.forall_mem_cons.mpr ⟨lw_p39, List.forall_mem_cons.mpr ⟨lw_p40, List.forall_mem_cons.mpr ⟨lw_p41, List.forall_mem_cons.mpr ⟨lw_p42, List.forall_mem_cons.mpr ⟨lw_p43, List.forall_mem_cons.mpr ⟨lw_p44, List.forall_mem_cons.mpr ⟨lw_p45, List.forall_mem_cons.mpr ⟨lw_p46, List.forall_mem_cons.mpr ⟨lw_p47, fun _ h => absurd h List.not_mem_nil⟩⟩⟩⟩⟩⟩⟩⟩⟩⟩⟩⟩⟩⟩⟩⟩
theorem lw_p48 : lw_okq (⟨"MayReadPencilModel", "leavesBag", "(I)V"⟩, 43) := ⟨⟨by decide +kernel, by decide +kernel⟩, List.mem_of_getElem? (i := 840) (by decide +kernel), List.mem_of_getElem? (i := 1099) (by decide +kernel), List.mem_of_getElem? (i := 1100) (by decide +kernel)⟩
theorem lw_p49 : lw_okq (⟨"MayReadPencilModel", "writes", "(I)V"⟩, 43) := ⟨⟨by decide +kernel, by decide +kernel⟩, List.mem_of_getElem? (i := 840) (by decide +kernel), List.mem_of_getElem? (i := 1103) (by decide +kernel), List.mem_of_getElem? (i := 1104) (by decide +kernel)⟩
theorem lw_p50 : lw_okq (⟨"MayReadPencilModel", "picked", "(I)J"⟩, 43) := ⟨⟨by decide +kernel, by decide +kernel⟩, List.mem_of_getElem? (i := 840) (by decide +kernel), List.mem_of_getElem? (i := 1110) (by decide +kernel), List.mem_of_getElem? (i := 1111) (by decide +kernel)⟩
theorem lw_p51 : lw_okq (⟨"MayReadPencilModel", "notSecret", "(II)I"⟩, 43) := ⟨⟨by decide +kernel, by decide +kernel⟩, List.mem_of_getElem? (i := 840) (by decide +kernel), List.mem_of_getElem? (i := 1152) (by decide +kernel), List.mem_of_getElem? (i := 1153) (by decide +kernel)⟩
theorem lw_p52 : lw_okq (⟨"MayReadPencilModel", "knownTo", "(I)J"⟩, 43) := ⟨⟨by decide +kernel, by decide +kernel⟩, List.mem_of_getElem? (i := 840) (by decide +kernel), List.mem_of_getElem? (i := 1156) (by decide +kernel), List.mem_of_getElem? (i := 1157) (by decide +kernel)⟩
theorem lw_p53 : lw_okq (⟨"MayReadPencilModel", "remembers", "()V"⟩, 43) := ⟨⟨by decide +kernel, by decide +kernel⟩, List.mem_of_getElem? (i := 840) (by decide +kernel), List.mem_of_getElem? (i := 1176) (by decide +kernel), List.mem_of_getElem? (i := 1177) (by decide +kernel)⟩
theorem lw_p54 : lw_okq (⟨"MayReadPencilModel", "knownBehind", "(II)I"⟩, 43) := ⟨⟨by decide +kernel, by decide +kernel⟩, List.mem_of_getElem? (i := 840) (by decide +kernel), List.mem_of_getElem? (i := 1204) (by decide +kernel), List.mem_of_getElem? (i := 1205) (by decide +kernel)⟩
theorem lw_p55 : lw_okq (⟨"MayReadPencilModel", "minds", "()V"⟩, 43) := ⟨⟨by decide +kernel, by decide +kernel⟩, List.mem_of_getElem? (i := 840) (by decide +kernel), List.mem_of_getElem? (i := 1208) (by decide +kernel), List.mem_of_getElem? (i := 1209) (by decide +kernel)⟩
theorem lw_p56 : lw_okq (⟨"MayReadPencilModel", "forgets", "()V"⟩, 43) := ⟨⟨by decide +kernel, by decide +kernel⟩, List.mem_of_getElem? (i := 840) (by decide +kernel), List.mem_of_getElem? (i := 1212) (by decide +kernel), List.mem_of_getElem? (i := 1213) (by decide +kernel)⟩
theorem lw_p57 : lw_okq (⟨"MayReadPencilModel", "allKnown", "()I"⟩, 43) := ⟨⟨by decide +kernel, by decide +kernel⟩, List.mem_of_getElem? (i := 840) (by decide +kernel), List.mem_of_getElem? (i := 1220) (by decide +kernel), List.mem_of_getElem? (i := 1221) (by decide +kernel)⟩
theorem lw_p58 : lw_okq (⟨"MayReadPencilModel", "whenFrom", "(II)I"⟩, 43) := ⟨⟨by decide +kernel, by decide +kernel⟩, List.mem_of_getElem? (i := 840) (by decide +kernel), List.mem_of_getElem? (i := 1228) (by decide +kernel), List.mem_of_getElem? (i := 1229) (by decide +kernel)⟩
theorem lw_p59 : lw_okq (⟨"MayReadPencilModel", "unknowing", "(I)I"⟩, 43) := ⟨⟨by decide +kernel, by decide +kernel⟩, List.mem_of_getElem? (i := 840) (by decide +kernel), List.mem_of_getElem? (i := 1236) (by decide +kernel), List.mem_of_getElem? (i := 1237) (by decide +kernel)⟩
theorem lw_p60 : lw_okq (⟨"MayReadPencilModel", "isKnownBehind", "(III)Z"⟩, 43) := ⟨⟨by decide +kernel, by decide +kernel⟩, List.mem_of_getElem? (i := 840) (by decide +kernel), List.mem_of_getElem? (i := 1248) (by decide +kernel), List.mem_of_getElem? (i := 1249) (by decide +kernel)⟩
theorem lw_p61 : lw_okq (⟨"MayReadPencilModel", "allKnownBehind", "(I)I"⟩, 43) := ⟨⟨by decide +kernel, by decide +kernel⟩, List.mem_of_getElem? (i := 840) (by decide +kernel), List.mem_of_getElem? (i := 1264) (by decide +kernel), List.mem_of_getElem? (i := 1265) (by decide +kernel)⟩
theorem lw_p62 : lw_okq (⟨"MayReadPencilModel", "changesFor", "([III)V"⟩, 43) := ⟨⟨by decide +kernel, by decide +kernel⟩, List.mem_of_getElem? (i := 840) (by decide +kernel), List.mem_of_getElem? (i := 1268) (by decide +kernel), List.mem_of_getElem? (i := 1269) (by decide +kernel)⟩
theorem lw_p63 : lw_okq (⟨"MayReadPencilModel", "lower", "(I)I"⟩, 43) := ⟨⟨by decide +kernel, by decide +kernel⟩, List.mem_of_getElem? (i := 840) (by decide +kernel), List.mem_of_getElem? (i := 1276) (by decide +kernel), List.mem_of_getElem? (i := 1277) (by decide +kernel)⟩
def lw_privs_4 : List (MethodName × Nat) := [(⟨"MayReadPencilModel", "leavesBag", "(I)V"⟩, 43), (⟨"MayReadPencilModel", "writes", "(I)V"⟩, 43), (⟨"MayReadPencilModel", "picked", "(I)J"⟩, 43), (⟨"MayReadPencilModel", "notSecret", "(II)I"⟩, 43), (⟨"MayReadPencilModel", "knownTo", "(I)J"⟩, 43), (⟨"MayReadPencilModel", "remembers", "()V"⟩, 43), (⟨"MayReadPencilModel", "knownBehind", "(II)I"⟩, 43), (⟨"MayReadPencilModel", "minds", "()V"⟩, 43), (⟨"MayReadPencilModel", "forgets", "()V"⟩, 43), (⟨"MayReadPencilModel", "allKnown", "()I"⟩, 43), (⟨"MayReadPencilModel", "whenFrom", "(II)I"⟩, 43), (⟨"MayReadPencilModel", "unknowing", "(I)I"⟩, 43), (⟨"MayReadPencilModel", "isKnownBehind", "(III)Z"⟩, 43), (⟨"MayReadPencilModel", "allKnownBehind", "(I)I"⟩, 43), (⟨"MayReadPencilModel", "changesFor", "([III)V"⟩, 43), (⟨"MayReadPencilModel", "lower", "(I)I"⟩, 43)]
theorem lw_r4 : ∀ q ∈ lw_privs_4, lw_okq q := List.forall_mem_cons.mpr ⟨lw_p48, List.forall_mem_cons.mpr ⟨lw_p49, List.forall_mem_cons.mpr ⟨lw_p50, List.forall_mem_cons.mpr ⟨lw_p51, List.forall_mem_cons.mpr ⟨lw_p52, List.forall_mem_cons.mpr ⟨lw_p53, List.forall_mem_cons.mpr ⟨lw_p54, List.forall_mem_cons.mpr ⟨lw_p55, List.forall_mem_cons.mpr ⟨lw_p56, List.forall_mem_cons.mpr ⟨lw_p57, List.forall_mem_cons.mpr ⟨lw_p58, List.forall_mem_cons.mpr ⟨lw_p59, List.forall_mem_cons.mpr ⟨lw_p60, List.forall_mem_cons.mpr ⟨lw_p61, List.forall_mem_cons.mpr ⟨lw_p62, List.forall_mem_cons.mpr ⟨lw_p63, fun _ h => absurd h List.not_mem_nil⟩⟩⟩⟩⟩⟩⟩⟩⟩⟩⟩⟩⟩⟩⟩⟩
theorem lw_p64 : lw_okq (⟨"MayReadPencilModel", "isLedSo", "(II)Z"⟩, 43) := ⟨⟨by decide +kernel, by decide +kernel⟩, List.mem_of_getElem? (i := 840) (by decide +kernel), List.mem_of_getElem? (i := 1285) (by decide +kernel), List.mem_of_getElem? (i := 1286) (by decide +kernel)⟩
theorem lw_p65 : lw_okq (⟨"MayReadPencilModel", "isKnownSo", "(I)Z"⟩, 43) := ⟨⟨by decide +kernel, by decide +kernel⟩, List.mem_of_getElem? (i := 840) (by decide +kernel), List.mem_of_getElem? (i := 1293) (by decide +kernel), List.mem_of_getElem? (i := 1294) (by decide +kernel)⟩
theorem lw_p66 : lw_okq (⟨"MayReadPencilModel", "findEnds", "(III)V"⟩, 43) := ⟨⟨by decide +kernel, by decide +kernel⟩, List.mem_of_getElem? (i := 840) (by decide +kernel), List.mem_of_getElem? (i := 1301) (by decide +kernel), List.mem_of_getElem? (i := 1302) (by decide +kernel)⟩
theorem lw_p67 : lw_okq (⟨"MayReadPencilModel", "endFor", "(IJ)I"⟩, 43) := ⟨⟨by decide +kernel, by decide +kernel⟩, List.mem_of_getElem? (i := 840) (by decide +kernel), List.mem_of_getElem? (i := 1305) (by decide +kernel), List.mem_of_getElem? (i := 1306) (by decide +kernel)⟩
theorem lw_p68 : lw_okq (⟨"MayReadPencilModel", "lowestOf", "(I)J"⟩, 43) := ⟨⟨by decide +kernel, by decide +kernel⟩, List.mem_of_getElem? (i := 840) (by decide +kernel), List.mem_of_getElem? (i := 1313) (by decide +kernel), List.mem_of_getElem? (i := 1314) (by decide +kernel)⟩
theorem lw_p69 : lw_okq (⟨"MayReadPencilModel", "reachOf", "(I)I"⟩, 43) := ⟨⟨by decide +kernel, by decide +kernel⟩, List.mem_of_getElem? (i := 840) (by decide +kernel), List.mem_of_getElem? (i := 1328) (by decide +kernel), List.mem_of_getElem? (i := 1329) (by decide +kernel)⟩
theorem lw_p70 : lw_okq (⟨"MayReadPencilModel", "goesFurther", "(I)Z"⟩, 43) := ⟨⟨by decide +kernel, by decide +kernel⟩, List.mem_of_getElem? (i := 840) (by decide +kernel), List.mem_of_getElem? (i := 1332) (by decide +kernel), List.mem_of_getElem? (i := 1333) (by decide +kernel)⟩
theorem lw_p71 : lw_okq (⟨"MayReadPencilModel", "ringOf", "(I)I"⟩, 43) := ⟨⟨by decide +kernel, by decide +kernel⟩, List.mem_of_getElem? (i := 840) (by decide +kernel), List.mem_of_getElem? (i := 1336) (by decide +kernel), List.mem_of_getElem? (i := 1337) (by decide +kernel)⟩
theorem lw_p72 : lw_okq (⟨"MayReadPencilModel", "knowers", "(I)I"⟩, 43) := ⟨⟨by decide +kernel, by decide +kernel⟩, List.mem_of_getElem? (i := 840) (by decide +kernel), List.mem_of_getElem? (i := 1348) (by decide +kernel), List.mem_of_getElem? (i := 1349) (by decide +kernel)⟩
theorem lw_p73 : lw_okq (⟨"MayReadPencilModel", "spoiltNow", "()I"⟩, 43) := ⟨⟨by decide +kernel, by decide +kernel⟩, List.mem_of_getElem? (i := 840) (by decide +kernel), List.mem_of_getElem? (i := 1364) (by decide +kernel), List.mem_of_getElem? (i := 1365) (by decide +kernel)⟩
theorem lw_p74 : lw_okq (⟨"MayReadPencilModel", "still", "()I"⟩, 43) := ⟨⟨by decide +kernel, by decide +kernel⟩, List.mem_of_getElem? (i := 840) (by decide +kernel), List.mem_of_getElem? (i := 1368) (by decide +kernel), List.mem_of_getElem? (i := 1369) (by decide +kernel)⟩
theorem lw_p75 : lw_okq (⟨"MayReadPencilModel", "busiest", "()I"⟩, 43) := ⟨⟨by decide +kernel, by decide +kernel⟩, List.mem_of_getElem? (i := 840) (by decide +kernel), List.mem_of_getElem? (i := 1372) (by decide +kernel), List.mem_of_getElem? (i := 1373) (by decide +kernel)⟩
theorem lw_p76 : lw_okq (⟨"MayReadPencilModel", "lettersFrom", "(I)I"⟩, 43) := ⟨⟨by decide +kernel, by decide +kernel⟩, List.mem_of_getElem? (i := 840) (by decide +kernel), List.mem_of_getElem? (i := 1376) (by decide +kernel), List.mem_of_getElem? (i := 1377) (by decide +kernel)⟩
theorem lw_p77 : lw_okq (⟨"MayReadPencilModel", "knowsByLot", "()V"⟩, 43) := ⟨⟨by decide +kernel, by decide +kernel⟩, List.mem_of_getElem? (i := 840) (by decide +kernel), List.mem_of_getElem? (i := 1400) (by decide +kernel), List.mem_of_getElem? (i := 1401) (by decide +kernel)⟩
theorem lw_p78 : lw_okq (⟨"MayReadPencilModel", "draw", "(I)I"⟩, 43) := ⟨⟨by decide +kernel, by decide +kernel⟩, List.mem_of_getElem? (i := 840) (by decide +kernel), List.mem_of_getElem? (i := 1404) (by decide +kernel), List.mem_of_getElem? (i := 1405) (by decide +kernel)⟩
def lw_privs_5 : List (MethodName × Nat) := [(⟨"MayReadPencilModel", "isLedSo", "(II)Z"⟩, 43), (⟨"MayReadPencilModel", "isKnownSo", "(I)Z"⟩, 43), (⟨"MayReadPencilModel", "findEnds", "(III)V"⟩, 43), (⟨"MayReadPencilModel", "endFor", "(IJ)I"⟩, 43), (⟨"MayReadPencilModel", "lowestOf", "(I)J"⟩, 43), (⟨"MayReadPencilModel", "reachOf", "(I)I"⟩, 43), (⟨"MayReadPencilModel", "goesFurther", "(I)Z"⟩, 43), (⟨"MayReadPencilModel", "ringOf", "(I)I"⟩, 43), (⟨"MayReadPencilModel", "knowers", "(I)I"⟩, 43), (⟨"MayReadPencilModel", "spoiltNow", "()I"⟩, 43), (⟨"MayReadPencilModel", "still", "()I"⟩, 43), (⟨"MayReadPencilModel", "busiest", "()I"⟩, 43), (⟨"MayReadPencilModel", "lettersFrom", "(I)I"⟩, 43), (⟨"MayReadPencilModel", "knowsByLot", "()V"⟩, 43), (⟨"MayReadPencilModel", "draw", "(I)I"⟩, 43)]
theorem lw_r5 : ∀ q ∈ lw_privs_5, lw_okq q := List.forall_mem_cons.mpr ⟨lw_p64, List.forall_mem_cons.mpr ⟨lw_p65, List.forall_mem_cons.mpr ⟨lw_p66, List.forall_mem_cons.mpr ⟨lw_p67, List.forall_mem_cons.mpr ⟨lw_p68, List.forall_mem_cons.mpr ⟨lw_p69, List.forall_mem_cons.mpr ⟨lw_p70, List.forall_mem_cons.mpr ⟨lw_p71, List.forall_mem_cons.mpr ⟨lw_p72, List.forall_mem_cons.mpr ⟨lw_p73, List.forall_mem_cons.mpr ⟨lw_p74, List.forall_mem_cons.mpr ⟨lw_p75, List.forall_mem_cons.mpr ⟨lw_p76, List.forall_mem_cons.mpr ⟨lw_p77, List.forall_mem_cons.mpr ⟨lw_p78, fun _ h => absurd h List.not_mem_nil⟩⟩⟩⟩⟩⟩⟩⟩⟩⟩⟩⟩⟩⟩⟩
def lw_privs : List (MethodName × Nat) := lw_privs_1 ++ (lw_privs_2 ++ (lw_privs_3 ++ (lw_privs_4 ++ (lw_privs_5))))
def lw_tbl : List Cond := k2_sels lw_privs ++ tables_1
theorem lw_privs_ok : ∀ q ∈ lw_privs, lw_okq q := by
  show ∀ q ∈ lw_privs_1 ++ (lw_privs_2 ++ (lw_privs_3 ++ (lw_privs_4 ++ (lw_privs_5)))), lw_okq q
  exact List.forall_mem_append.mpr ⟨lw_r1, List.forall_mem_append.mpr ⟨lw_r2, List.forall_mem_append.mpr ⟨lw_r3, List.forall_mem_append.mpr ⟨lw_r4, lw_r5⟩⟩⟩⟩

theorem goodIn_r {big : List Cond} (ws : List Cond) (ps : List Nat) (hp : ws = ps.filterMap (fun i => big[i]?)) (h : ws.all goodWord = true) : GoodIn big ws := by
  intro w hw
  have h1 := List.all_eq_true.mp h w hw
  rw [hp] at hw
  obtain ⟨i, -, hi⟩ := List.mem_filterMap.mp hw
  have hm : w ∈ big := by first | exact List.mem_of_getElem? hi | exact List.getElem?_mem hi
  exact ⟨hm, good_of_word h1⟩
theorem goodIn_app {big a b : List Cond} (ha : GoodIn big a) (hb : GoodIn big b) : GoodIn big (a ++ b) := fun w h => (List.mem_append.mp h).elim (ha w) (hb w)
theorem goodIn_ca {big a b : List Cond} {c : Cond} (ha : GoodIn big (c :: a)) (hb : GoodIn big b) : GoodIn big (c :: (a ++ b)) := fun w h => (List.mem_cons.mp h).elim (fun e => ha w (List.mem_cons.mpr (Or.inl e))) (fun h => (List.mem_append.mp h).elim (fun h => ha w (List.mem_cons.mpr (Or.inr h))) (hb w))
theorem goodIn_sub {big ws : List Cond} (hm : ∀ w ∈ ws, w ∈ big) (h : ws.all goodWord = true) : GoodIn big ws := fun w hw => ⟨hm w hw, good_of_word (List.all_eq_true.mp h w hw)⟩
def RX0 : String := "MayReadPencil$Bag"
def TX0 : u_T := fun k => match k with
  | 0 => ("MayReadPencil$Bag", "letters", "I", false)
  | 1 => ("MayReadPencil$Bag", "froms", "[I", true)
  | 2 => ("MayReadPencil$Bag", "tos", "[I", true)
  | 3 => ("MayReadPencil$Bag", "leads", "[I", true)
  | 4 => ("MayReadPencil$Bag", "presses", "[I", true)
  | _ => ("MayReadPencil$Bag", "clauses", "[J", true)
def tyX0 : Nat → FieldType := fun k => match k with
  | 0 => .int
  | 1 => .array .int
  | 2 => .array .int
  | 3 => .array .int
  | 4 => .array .int
  | _ => .array .long
theorem nmX0 : ∀ a, a < 6 → ∀ b, b < 6 → a ≠ b → (TX0 a).2.1 ≠ (TX0 b).2.1 := by decide +kernel
theorem tyX0_ok : ∀ k, k < 6 → parseFieldDescriptor (TX0 k).2.2.1 = some (tyX0 k) := by decide +kernel
abbrev cX0_init : ByteArray := prog_2_method_1_code
def yX0_init : MethodName := ⟨RX0, "<init>", "()V"⟩
abbrev cX0_holdAs : ByteArray := prog_2_method_2_code
def yX0_holdAs : MethodName := ⟨RX0, "holdAs", "(LMayReadPencil$Bag;)V"⟩
abbrev cX0_put : ByteArray := prog_2_method_3_code
def yX0_put : MethodName := ⟨RX0, "put", "(ILMayReadPencil$Bag;I)V"⟩
abbrev cX0_isFull : ByteArray := prog_2_method_4_code
def yX0_isFull : MethodName := ⟨RX0, "isFull", "()Z"⟩
abbrev cX0_add : ByteArray := prog_2_method_5_code
def yX0_add : MethodName := ⟨RX0, "add", "(IIIIJ)V"⟩
abbrev cX0_dropFirst : ByteArray := prog_2_method_6_code
def yX0_dropFirst : MethodName := ⟨RX0, "dropFirst", "(I)V"⟩
abbrev cX0_dropFrom : ByteArray := prog_2_method_7_code
def yX0_dropFrom : MethodName := ⟨RX0, "dropFrom", "(I)I"⟩
abbrev cX0_ofLetter : ByteArray := prog_2_method_8_code
def yX0_ofLetter : MethodName := ⟨RX0, "ofLetter", "(II)I"⟩
abbrev cX0_busiest : ByteArray := prog_2_method_9_code
def yX0_busiest : MethodName := ⟨RX0, "busiest", "()I"⟩
abbrev cX0_lettersFrom : ByteArray := prog_2_method_10_code
def yX0_lettersFrom : MethodName := ⟨RX0, "lettersFrom", "(I)I"⟩
def RX1 : String := "MayReadPencil$Foresight"
def TX1 : u_T := fun k => match k with
  | 0 => ("MayReadPencil$Foresight", "now", "LMayReadPencil$Village;", true)
  | 1 => ("MayReadPencil$Foresight", "mind", "LMayReadPencil$Village;", true)
  | 2 => ("MayReadPencil$Foresight", "oneHas", "[I", true)
  | _ => ("MayReadPencil$Foresight", "otherHas", "[I", true)
def tyX1 : Nat → FieldType := fun k => match k with
  | 0 => .object "MayReadPencil$Village"
  | 1 => .object "MayReadPencil$Village"
  | 2 => .array .int
  | _ => .array .int
theorem nmX1 : ∀ a, a < 4 → ∀ b, b < 4 → a ≠ b → (TX1 a).2.1 ≠ (TX1 b).2.1 := by decide +kernel
theorem tyX1_ok : ∀ k, k < 4 → parseFieldDescriptor (TX1 k).2.2.1 = some (tyX1 k) := by decide +kernel
abbrev cX1_init : ByteArray := prog_3_method_1_code
def yX1_init : MethodName := ⟨RX1, "<init>", "(LMayReadPencil$Village;)V"⟩
abbrev cX1_asItIs : ByteArray := prog_3_method_2_code
def yX1_asItIs : MethodName := ⟨RX1, "asItIs", "()LMayReadPencil$Village;"⟩
abbrev cX1_asLeft : ByteArray := prog_3_method_3_code
def yX1_asLeft : MethodName := ⟨RX1, "asLeft", "()LMayReadPencil$Village;"⟩
abbrev cX1_daysOn : ByteArray := prog_3_method_4_code
def yX1_daysOn : MethodName := ⟨RX1, "daysOn", "(I)LMayReadPencil$Village;"⟩
abbrev cX1_nextToLearn : ByteArray := prog_3_method_5_code
def yX1_nextToLearn : MethodName := ⟨RX1, "nextToLearn", "(I)I"⟩
abbrev cX1_secretToLetHer : ByteArray := prog_3_method_6_code
def yX1_secretToLetHer : MethodName := ⟨RX1, "secretToLetHer", "(III)I"⟩
abbrev cX1_knownIfSheKnew : ByteArray := prog_3_method_7_code
def yX1_knownIfSheKnew : MethodName := ⟨RX1, "knownIfSheKnew", "(III)I"⟩
abbrev cX1_rubberThatDoes : ByteArray := prog_3_method_8_code
def yX1_rubberThatDoes : MethodName := ⟨RX1, "rubberThatDoes", "(III)I"⟩
abbrev cX1_fewestInInk : ByteArray := prog_3_method_9_code
def yX1_fewestInInk : MethodName := ⟨RX1, "fewestInInk", "(II)I"⟩
abbrev cX1_passInInk : ByteArray := prog_3_method_10_code
def yX1_passInInk : MethodName := ⟨RX1, "passInInk", "(II)V"⟩
abbrev cX1_bestFriend : ByteArray := prog_3_method_11_code
def yX1_bestFriend : MethodName := ⟨RX1, "bestFriend", "(IIII)I"⟩
abbrev cX1_bestSwap : ByteArray := prog_3_method_12_code
def yX1_bestSwap : MethodName := ⟨RX1, "bestSwap", "(I)I"⟩
abbrev cX1_knownIfExchanged : ByteArray := prog_3_method_13_code
def yX1_knownIfExchanged : MethodName := ⟨RX1, "knownIfExchanged", "(III)I"⟩
abbrev cX1_purpleLoss : ByteArray := prog_3_method_14_code
def yX1_purpleLoss : MethodName := ⟨RX1, "purpleLoss", "(I)I"⟩
abbrev cX1_friendsByRow : ByteArray := prog_3_method_15_code
def yX1_friendsByRow : MethodName := ⟨RX1, "friendsByRow", "(II[II)I"⟩
abbrev cX1_goesByRow : ByteArray := prog_3_method_16_code
def yX1_goesByRow : MethodName := ⟨RX1, "goesByRow", "(I[II)Z"⟩
abbrev cX1_settledPair : ByteArray := prog_3_method_17_code
def yX1_settledPair : MethodName := ⟨RX1, "settledPair", "(III)I"⟩
abbrev cX1_gain : ByteArray := prog_3_method_18_code
def yX1_gain : MethodName := ⟨RX1, "gain", "(I)I"⟩
abbrev cX1_waysToLearn : ByteArray := prog_3_method_19_code
def yX1_waysToLearn : MethodName := ⟨RX1, "waysToLearn", "(IIII)J"⟩
abbrev cX1_longestStill : ByteArray := prog_3_method_20_code
def yX1_longestStill : MethodName := ⟨RX1, "longestStill", "()I"⟩
abbrev cX1_playGames : ByteArray := prog_3_method_21_code
def yX1_playGames : MethodName := ⟨RX1, "playGames", "(III)I"⟩
abbrev cX1_nextSeed : ByteArray := prog_3_method_22_code
def yX1_nextSeed : MethodName := ⟨RX1, "nextSeed", "(I)I"⟩
abbrev cX1_drawBelow : ByteArray := prog_3_method_23_code
def yX1_drawBelow : MethodName := ⟨RX1, "drawBelow", "(II)I"⟩
def RX2 : String := "MayReadPencil$Fraction"
def TX2 : u_T := fun k => match k with
  | _ => ("", "", "", false)
def tyX2 : Nat → FieldType := fun k => match k with
  | _ => .int
theorem nmX2 : ∀ a, a < 0 → ∀ b, b < 0 → a ≠ b → (TX2 a).2.1 ≠ (TX2 b).2.1 := by decide +kernel
theorem tyX2_ok : ∀ k, k < 0 → parseFieldDescriptor (TX2 k).2.2.1 = some (tyX2 k) := by decide +kernel
abbrev cX2_power : ByteArray := prog_4_method_2_code
def yX2_power : MethodName := ⟨RX2, "power", "(II)J"⟩
abbrev cX2_partOf : ByteArray := prog_4_method_3_code
def yX2_partOf : MethodName := ⟨RX2, "partOf", "(JJI)J"⟩
abbrev cX2_commonDivisor : ByteArray := prog_4_method_4_code
def yX2_commonDivisor : MethodName := ⟨RX2, "commonDivisor", "(JJ)J"⟩
def RX3 : String := "MayReadPencil$Kind"
def TX3 : u_T := fun k => match k with
  | _ => ("", "", "", false)
def tyX3 : Nat → FieldType := fun k => match k with
  | _ => .int
theorem nmX3 : ∀ a, a < 0 → ∀ b, b < 0 → a ≠ b → (TX3 a).2.1 ≠ (TX3 b).2.1 := by decide +kernel
theorem tyX3_ok : ∀ k, k < 0 → parseFieldDescriptor (TX3 k).2.2.1 = some (tyX3 k) := by decide +kernel
abbrev cX3_isOne : ByteArray := prog_5_method_2_code
def yX3_isOne : MethodName := ⟨RX3, "isOne", "(I)Z"⟩
abbrev cX3_leadOf : ByteArray := prog_5_method_3_code
def yX3_leadOf : MethodName := ⟨RX3, "leadOf", "(III)I"⟩
abbrev cX3_loversLead : ByteArray := prog_5_method_4_code
def yX3_loversLead : MethodName := ⟨RX3, "loversLead", "(I)I"⟩
abbrev cX3_soldiersLead : ByteArray := prog_5_method_5_code
def yX3_soldiersLead : MethodName := ⟨RX3, "soldiersLead", "(I)I"⟩
abbrev cX3_banksLead : ByteArray := prog_5_method_6_code
def yX3_banksLead : MethodName := ⟨RX3, "banksLead", "(II)I"⟩
abbrev cX3_pressOf : ByteArray := prog_5_method_7_code
def yX3_pressOf : MethodName := ⟨RX3, "pressOf", "(II)I"⟩
abbrev cX3_loversPress : ByteArray := prog_5_method_8_code
def yX3_loversPress : MethodName := ⟨RX3, "loversPress", "(I)I"⟩
abbrev cX3_everyOf : ByteArray := prog_5_method_9_code
def yX3_everyOf : MethodName := ⟨RX3, "everyOf", "(II)I"⟩
abbrev cX3_soldiersEvery : ByteArray := prog_5_method_10_code
def yX3_soldiersEvery : MethodName := ⟨RX3, "soldiersEvery", "(I)I"⟩
abbrev cX3_picksOf : ByteArray := prog_5_method_11_code
def yX3_picksOf : MethodName := ⟨RX3, "picksOf", "(I)I"⟩
abbrev cX3_isBackward : ByteArray := prog_5_method_12_code
def yX3_isBackward : MethodName := ⟨RX3, "isBackward", "(I)Z"⟩
def RX4 : String := "MayReadPencil$Past"
def TX4 : u_T := fun k => match k with
  | 0 => ("MayReadPencil$Past", "rows", "[LMayReadPencil$Village;", true)
  | 1 => ("MayReadPencil$Past", "oldest", "I", false)
  | _ => ("MayReadPencil$Past", "kept", "I", false)
def tyX4 : Nat → FieldType := fun k => match k with
  | 0 => .array (.object "MayReadPencil$Village")
  | 1 => .int
  | _ => .int
theorem nmX4 : ∀ a, a < 3 → ∀ b, b < 3 → a ≠ b → (TX4 a).2.1 ≠ (TX4 b).2.1 := by decide +kernel
theorem tyX4_ok : ∀ k, k < 3 → parseFieldDescriptor (TX4 k).2.2.1 = some (tyX4 k) := by decide +kernel
abbrev cX4_init : ByteArray := prog_6_method_1_code
def yX4_init : MethodName := ⟨RX4, "<init>", "()V"⟩
abbrev cX4_keep : ByteArray := prog_6_method_2_code
def yX4_keep : MethodName := ⟨RX4, "keep", "(LMayReadPencil$Village;)V"⟩
abbrev cX4_takeBack : ByteArray := prog_6_method_3_code
def yX4_takeBack : MethodName := ⟨RX4, "takeBack", "(LMayReadPencil$Village;)V"⟩
abbrev cX4_forgetAll : ByteArray := prog_6_method_4_code
def yX4_forgetAll : MethodName := ⟨RX4, "forgetAll", "()V"⟩
def RX5 : String := "MayReadPencil$Post"
def TX5 : u_T := fun k => match k with
  | 0 => ("MayReadPencil$Post", "text", "[I", true)
  | _ => ("MayReadPencil$Post", "length", "I", false)
def tyX5 : Nat → FieldType := fun k => match k with
  | 0 => .array .int
  | _ => .int
theorem nmX5 : ∀ a, a < 2 → ∀ b, b < 2 → a ≠ b → (TX5 a).2.1 ≠ (TX5 b).2.1 := by decide +kernel
theorem tyX5_ok : ∀ k, k < 2 → parseFieldDescriptor (TX5 k).2.2.1 = some (tyX5 k) := by decide +kernel
abbrev cX5_init : ByteArray := prog_7_method_1_code
def yX5_init : MethodName := ⟨RX5, "<init>", "()V"⟩
abbrev cX5_isFull : ByteArray := prog_7_method_2_code
def yX5_isFull : MethodName := ⟨RX5, "isFull", "()Z"⟩
abbrev cX5_take : ByteArray := prog_7_method_3_code
def yX5_take : MethodName := ⟨RX5, "take", "(I)I"⟩
abbrev cX5_forget : ByteArray := prog_7_method_4_code
def yX5_forget : MethodName := ⟨RX5, "forget", "()V"⟩
abbrev cX5_readInto : ByteArray := prog_7_method_5_code
def yX5_readInto : MethodName := ⟨RX5, "readInto", "(LMayReadPencil$Village;)I"⟩
abbrev cX5_firstWrongLetter : ByteArray := prog_7_method_6_code
def yX5_firstWrongLetter : MethodName := ⟨RX5, "firstWrongLetter", "()I"⟩
abbrev cX5_lettersBehind : ByteArray := prog_7_method_7_code
def yX5_lettersBehind : MethodName := ⟨RX5, "lettersBehind", "(I)I"⟩
abbrev cX5_isDigit : ByteArray := prog_7_method_8_code
def yX5_isDigit : MethodName := ⟨RX5, "isDigit", "(I)Z"⟩
abbrev cX5_digit : ByteArray := prog_7_method_9_code
def yX5_digit : MethodName := ⟨RX5, "digit", "(I)I"⟩
abbrev cX5_twoDigits : ByteArray := prog_7_method_10_code
def yX5_twoDigits : MethodName := ⟨RX5, "twoDigits", "(I)I"⟩
abbrev cX5_tell : ByteArray := prog_7_method_11_code
def yX5_tell : MethodName := ⟨RX5, "tell", "(LMayReadPencil$Village;I)Z"⟩
abbrev cX5_tellPerson : ByteArray := prog_7_method_12_code
def yX5_tellPerson : MethodName := ⟨RX5, "tellPerson", "(LMayReadPencil$Village;II)Z"⟩
abbrev cX5_tellFriend : ByteArray := prog_7_method_13_code
def yX5_tellFriend : MethodName := ⟨RX5, "tellFriend", "(LMayReadPencil$Village;II)Z"⟩
abbrev cX5_tellSecret : ByteArray := prog_7_method_14_code
def yX5_tellSecret : MethodName := ⟨RX5, "tellSecret", "(LMayReadPencil$Village;II)Z"⟩
abbrev cX5_tellForbidden : ByteArray := prog_7_method_15_code
def yX5_tellForbidden : MethodName := ⟨RX5, "tellForbidden", "(LMayReadPencil$Village;I)Z"⟩
abbrev cX5_tellRubber : ByteArray := prog_7_method_16_code
def yX5_tellRubber : MethodName := ⟨RX5, "tellRubber", "(LMayReadPencil$Village;I)Z"⟩
abbrev cX5_mayPass : ByteArray := prog_7_method_17_code
def yX5_mayPass : MethodName := ⟨RX5, "mayPass", "(LMayReadPencil$Village;I)Z"⟩
def RX6 : String := "MayReadPencil$Secrets"
def TX6 : u_T := fun k => match k with
  | _ => ("", "", "", false)
def tyX6 : Nat → FieldType := fun k => match k with
  | _ => .int
theorem nmX6 : ∀ a, a < 0 → ∀ b, b < 0 → a ≠ b → (TX6 a).2.1 ≠ (TX6 b).2.1 := by decide +kernel
theorem tyX6_ok : ∀ k, k < 0 → parseFieldDescriptor (TX6 k).2.2.1 = some (tyX6 k) := by decide +kernel
abbrev cX6_only : ByteArray := prog_8_method_2_code
def yX6_only : MethodName := ⟨RX6, "only", "(I)J"⟩
abbrev cX6_isAmong : ByteArray := prog_8_method_3_code
def yX6_isAmong : MethodName := ⟨RX6, "isAmong", "(JI)Z"⟩
abbrev cX6_leastFrom : ByteArray := prog_8_method_4_code
def yX6_leastFrom : MethodName := ⟨RX6, "leastFrom", "(JI)I"⟩
abbrev cX6_greatest : ByteArray := prog_8_method_5_code
def yX6_greatest : MethodName := ⟨RX6, "greatest", "(J)I"⟩
abbrev cX6_firstFew : ByteArray := prog_8_method_6_code
def yX6_firstFew : MethodName := ⟨RX6, "firstFew", "(JIZ)J"⟩
def RX7 : String := "MayReadPencil$Village"
def TX7 : u_T := fun k => match k with
  | 0 => ("MayReadPencil$Village", "people", "I", false)
  | 1 => ("MayReadPencil$Village", "kindsOf", "[I", true)
  | 2 => ("MayReadPencil$Village", "figures", "[I", true)
  | 3 => ("MayReadPencil$Village", "friends", "[I", true)
  | 4 => ("MayReadPencil$Village", "known", "[J", true)
  | 5 => ("MayReadPencil$Village", "written", "[J", true)
  | 6 => ("MayReadPencil$Village", "bag", "LMayReadPencil$Bag;", true)
  | 7 => ("MayReadPencil$Village", "sheKnows", "J", false)
  | 8 => ("MayReadPencil$Village", "forbidden", "J", false)
  | 9 => ("MayReadPencil$Village", "rubberNow", "I", false)
  | 10 => ("MayReadPencil$Village", "drawer", "I", false)
  | 11 => ("MayReadPencil$Village", "rubbed", "I", false)
  | 12 => ("MayReadPencil$Village", "dayNow", "I", false)
  | 13 => ("MayReadPencil$Village", "inkWriters", "I", false)
  | 14 => ("MayReadPencil$Village", "isDamp", "Z", false)
  | _ => ("MayReadPencil$Village", "isPurpleInk", "Z", false)
def tyX7 : Nat → FieldType := fun k => match k with
  | 0 => .int
  | 1 => .array .int
  | 2 => .array .int
  | 3 => .array .int
  | 4 => .array .long
  | 5 => .array .long
  | 6 => .object "MayReadPencil$Bag"
  | 7 => .long
  | 8 => .long
  | 9 => .int
  | 10 => .int
  | 11 => .int
  | 12 => .int
  | 13 => .int
  | 14 => .boolean
  | _ => .boolean
theorem nmX7 : ∀ a, a < 16 → ∀ b, b < 16 → a ≠ b → (TX7 a).2.1 ≠ (TX7 b).2.1 := by decide +kernel
theorem tyX7_ok : ∀ k, k < 16 → parseFieldDescriptor (TX7 k).2.2.1 = some (tyX7 k) := by decide +kernel
abbrev cX7_init : ByteArray := prog_9_method_1_code
def yX7_init : MethodName := ⟨RX7, "<init>", "()V"⟩
abbrev cX7_becomeLike : ByteArray := prog_9_method_2_code
def yX7_becomeLike : MethodName := ⟨RX7, "becomeLike", "(LMayReadPencil$Village;)V"⟩
abbrev cX7_letCome : ByteArray := prog_9_method_3_code
def yX7_letCome : MethodName := ⟨RX7, "letCome", "(II)I"⟩
abbrev cX7_ofPerson : ByteArray := prog_9_method_4_code
def yX7_ofPerson : MethodName := ⟨RX7, "ofPerson", "(II)I"⟩
abbrev cX7_inAll : ByteArray := prog_9_method_5_code
def yX7_inAll : MethodName := ⟨RX7, "inAll", "(I)I"⟩
abbrev cX7_hasPerson : ByteArray := prog_9_method_6_code
def yX7_hasPerson : MethodName := ⟨RX7, "hasPerson", "(I)Z"⟩
abbrev cX7_hasRowFor : ByteArray := prog_9_method_7_code
def yX7_hasRowFor : MethodName := ⟨RX7, "hasRowFor", "(I)Z"⟩
abbrev cX7_knownBy : ByteArray := prog_9_method_8_code
def yX7_knownBy : MethodName := ⟨RX7, "knownBy", "(I)J"⟩
abbrev cX7_hasLearnt : ByteArray := prog_9_method_9_code
def yX7_hasLearnt : MethodName := ⟨RX7, "hasLearnt", "(II)Z"⟩
abbrev cX7_learn : ByteArray := prog_9_method_10_code
def yX7_learn : MethodName := ⟨RX7, "learn", "(IJ)V"⟩
abbrev cX7_knownTogether : ByteArray := prog_9_method_11_code
def yX7_knownTogether : MethodName := ⟨RX7, "knownTogether", "()I"⟩
abbrev cX7_knownInAll : ByteArray := prog_9_method_12_code
def yX7_knownInAll : MethodName := ⟨RX7, "knownInAll", "()I"⟩
abbrev cX7_knownByAny : ByteArray := prog_9_method_13_code
def yX7_knownByAny : MethodName := ⟨RX7, "knownByAny", "()J"⟩
abbrev cX7_howManyKnow : ByteArray := prog_9_method_14_code
def yX7_howManyKnow : MethodName := ⟨RX7, "howManyKnow", "(I)I"⟩
abbrev cX7_rarestSecret : ByteArray := prog_9_method_15_code
def yX7_rarestSecret : MethodName := ⟨RX7, "rarestSecret", "()I"⟩
abbrev cX7_howManyOf : ByteArray := prog_9_method_16_code
def yX7_howManyOf : MethodName := ⟨RX7, "howManyOf", "(I)I"⟩
abbrev cX7_hasOtherFriend : ByteArray := prog_9_method_17_code
def yX7_hasOtherFriend : MethodName := ⟨RX7, "hasOtherFriend", "(I)Z"⟩
abbrev cX7_reachedFrom : ByteArray := prog_9_method_18_code
def yX7_reachedFrom : MethodName := ⟨RX7, "reachedFrom", "(I)I"⟩
abbrev cX7_ringFrom : ByteArray := prog_9_method_19_code
def yX7_ringFrom : MethodName := ⟨RX7, "ringFrom", "(I)I"⟩
abbrev cX7_passDays : ByteArray := prog_9_method_20_code
def yX7_passDays : MethodName := ⟨RX7, "passDays", "(I)V"⟩
abbrev cX7_haveFirstLetters : ByteArray := prog_9_method_21_code
def yX7_haveFirstLetters : MethodName := ⟨RX7, "haveFirstLetters", "()V"⟩
abbrev cX7_haveWholeBag : ByteArray := prog_9_method_22_code
def yX7_haveWholeBag : MethodName := ⟨RX7, "haveWholeBag", "()I"⟩
abbrev cX7_haveLetter : ByteArray := prog_9_method_23_code
def yX7_haveLetter : MethodName := ⟨RX7, "haveLetter", "(I)Z"⟩
abbrev cX7_afterRubbing : ByteArray := prog_9_method_24_code
def yX7_afterRubbing : MethodName := ⟨RX7, "afterRubbing", "(JJ)J"⟩
abbrev cX7_writeIfDue : ByteArray := prog_9_method_25_code
def yX7_writeIfDue : MethodName := ⟨RX7, "writeIfDue", "(I)V"⟩
abbrev cX7_daysUntil : ByteArray := prog_9_method_26_code
def yX7_daysUntil : MethodName := ⟨RX7, "daysUntil", "(II)I"⟩
abbrev cX7_exchange : ByteArray := prog_9_method_27_code
def yX7_exchange : MethodName := ⟨RX7, "exchange", "(II)V"⟩
def RX8 : String := "MayReadPencil"
def TX8 : u_T := fun k => match k with
  | 0 => ("MayReadPencil", "now", "LMayReadPencil$Village;", true)
  | 1 => ("MayReadPencil", "foresight", "LMayReadPencil$Foresight;", true)
  | 2 => ("MayReadPencil", "past", "LMayReadPencil$Past;", true)
  | 3 => ("MayReadPencil", "spelt", "LMayReadPencil$Post;", true)
  | 4 => ("MayReadPencil", "rowNumbers", "[I", true)
  | 5 => ("MayReadPencil", "refusals", "[I", true)
  | 6 => ("MayReadPencil", "inRow", "I", false)
  | _ => ("MayReadPencil", "picture", "LMayReadPencil$Village;", false)
def tyX8 : Nat → FieldType := fun k => match k with
  | 0 => .object "MayReadPencil$Village"
  | 1 => .object "MayReadPencil$Foresight"
  | 2 => .object "MayReadPencil$Past"
  | 3 => .object "MayReadPencil$Post"
  | 4 => .array .int
  | 5 => .array .int
  | 6 => .int
  | _ => .object "MayReadPencil$Village"
theorem nmX8 : ∀ a, a < 8 → ∀ b, b < 8 → a ≠ b → (TX8 a).2.1 ≠ (TX8 b).2.1 := by decide +kernel
theorem tyX8_ok : ∀ k, k < 8 → parseFieldDescriptor (TX8 k).2.2.1 = some (tyX8 k) := by decide +kernel
abbrev cX8_init : ByteArray := prog_1_method_1_code
def yX8_init : MethodName := ⟨RX8, "<init>", "()V"⟩
abbrev cX8_feed : ByteArray := prog_1_method_2_code
def yX8_feed : MethodName := ⟨RX8, "feed", "(I)I"⟩
abbrev cX8_post : ByteArray := prog_1_method_3_code
def yX8_post : MethodName := ⟨RX8, "post", "()I"⟩
abbrev cX8_person : ByteArray := prog_1_method_4_code
def yX8_person : MethodName := ⟨RX8, "person", "(II)I"⟩
abbrev cX8_knows : ByteArray := prog_1_method_5_code
def yX8_knows : MethodName := ⟨RX8, "knows", "(II)I"⟩
abbrev cX8_above : ByteArray := prog_1_method_6_code
def yX8_above : MethodName := ⟨RX8, "above", "(II)I"⟩
abbrev cX8_letter : ByteArray := prog_1_method_7_code
def yX8_letter : MethodName := ⟨RX8, "letter", "(II)I"⟩
abbrev cX8_comes : ByteArray := prog_1_method_8_code
def yX8_comes : MethodName := ⟨RX8, "comes", "(II)I"⟩
abbrev cX8_friend : ByteArray := prog_1_method_9_code
def yX8_friend : MethodName := ⟨RX8, "friend", "(II)I"⟩
abbrev cX8_tells : ByteArray := prog_1_method_10_code
def yX8_tells : MethodName := ⟨RX8, "tells", "(II)I"⟩
abbrev cX8_forbids : ByteArray := prog_1_method_11_code
def yX8_forbids : MethodName := ⟨RX8, "forbids", "(I)I"⟩
abbrev cX8_rubber : ByteArray := prog_1_method_12_code
def yX8_rubber : MethodName := ⟨RX8, "rubber", "(I)I"⟩
abbrev cX8_recalls : ByteArray := prog_1_method_13_code
def yX8_recalls : MethodName := ⟨RX8, "recalls", "(I)I"⟩
abbrev cX8_days : ByteArray := prog_1_method_14_code
def yX8_days : MethodName := ⟨RX8, "days", "(I)I"⟩
abbrev cX8_back : ByteArray := prog_1_method_15_code
def yX8_back : MethodName := ⟨RX8, "back", "()I"⟩
abbrev cX8_knownIn : ByteArray := prog_1_method_16_code
def yX8_knownIn : MethodName := ⟨RX8, "knownIn", "(II)I"⟩
abbrev cX8_then : ByteArray := prog_1_method_17_code
def yX8_then : MethodName := ⟨RX8, "then", "(II)I"⟩
abbrev cX8_when : ByteArray := prog_1_method_18_code
def yX8_when : MethodName := ⟨RX8, "when", "(II)I"⟩
abbrev cX8_first : ByteArray := prog_1_method_19_code
def yX8_first : MethodName := ⟨RX8, "first", "(I)I"⟩
abbrev cX8_letHer : ByteArray := prog_1_method_20_code
def yX8_letHer : MethodName := ⟨RX8, "letHer", "(III)I"⟩
abbrev cX8_rubberFor : ByteArray := prog_1_method_21_code
def yX8_rubberFor : MethodName := ⟨RX8, "rubberFor", "(III)I"⟩
abbrev cX8_ink : ByteArray := prog_1_method_22_code
def yX8_ink : MethodName := ⟨RX8, "ink", "(II)I"⟩
abbrev cX8_friendFor : ByteArray := prog_1_method_23_code
def yX8_friendFor : MethodName := ⟨RX8, "friendFor", "(IIII)I"⟩
abbrev cX8_swap : ByteArray := prog_1_method_24_code
def yX8_swap : MethodName := ⟨RX8, "swap", "(I)I"⟩
abbrev cX8_shade : ByteArray := prog_1_method_25_code
def yX8_shade : MethodName := ⟨RX8, "shade", "(I)I"⟩
abbrev cX8_whatKind : ByteArray := prog_1_method_26_code
def yX8_whatKind : MethodName := ⟨RX8, "whatKind", "(II)I"⟩
abbrev cX8_toWhom : ByteArray := prog_1_method_27_code
def yX8_toWhom : MethodName := ⟨RX8, "toWhom", "(II)I"⟩
abbrev cX8_two : ByteArray := prog_1_method_28_code
def yX8_two : MethodName := ⟨RX8, "two", "(III)I"⟩
abbrev cX8_damp : ByteArray := prog_1_method_29_code
def yX8_damp : MethodName := ⟨RX8, "damp", "(IIIII)J"⟩
abbrev cX8_reach : ByteArray := prog_1_method_30_code
def yX8_reach : MethodName := ⟨RX8, "reach", "(II)I"⟩
abbrev cX8_common : ByteArray := prog_1_method_31_code
def yX8_common : MethodName := ⟨RX8, "common", "(III)I"⟩
abbrev cX8_rarest : ByteArray := prog_1_method_32_code
def yX8_rarest : MethodName := ⟨RX8, "rarest", "(I)I"⟩
abbrev cX8_share : ByteArray := prog_1_method_33_code
def yX8_share : MethodName := ⟨RX8, "share", "(I)J"⟩
abbrev cX8_lamp : ByteArray := prog_1_method_34_code
def yX8_lamp : MethodName := ⟨RX8, "lamp", "(I)I"⟩
abbrev cX8_bag : ByteArray := prog_1_method_35_code
def yX8_bag : MethodName := ⟨RX8, "bag", "(I)I"⟩
abbrev cX8_kinds : ByteArray := prog_1_method_36_code
def yX8_kinds : MethodName := ⟨RX8, "kinds", "(I)I"⟩
abbrev cX8_row : ByteArray := prog_1_method_37_code
def yX8_row : MethodName := ⟨RX8, "row", "(I)I"⟩
abbrev cX8_judge : ByteArray := prog_1_method_38_code
def yX8_judge : MethodName := ⟨RX8, "judge", "()I"⟩
abbrev cX8_clear : ByteArray := prog_1_method_39_code
def yX8_clear : MethodName := ⟨RX8, "clear", "()I"⟩
abbrev cX8_lots : ByteArray := prog_1_method_40_code
def yX8_lots : MethodName := ⟨RX8, "lots", "(III)I"⟩
abbrev cX8_image : ByteArray := prog_1_method_41_code
def yX8_image : MethodName := ⟨RX8, "image", "()I"⟩
abbrev cX8_restore : ByteArray := prog_1_method_42_code
def yX8_restore : MethodName := ⟨RX8, "restore", "()I"⟩
abbrev cX8_count : ByteArray := prog_1_method_43_code
def yX8_count : MethodName := ⟨RX8, "count", "(I)I"⟩
abbrev cX8_refuse : ByteArray := prog_1_method_44_code
def yX8_refuse : MethodName := ⟨RX8, "refuse", "(I)I"⟩
abbrev cX8_whyNot : ByteArray := prog_1_method_45_code
def yX8_whyNot : MethodName := ⟨RX8, "whyNot", "(ZZZZ)I"⟩
abbrev cX8_isChoice : ByteArray := prog_1_method_46_code
def yX8_isChoice : MethodName := ⟨RX8, "isChoice", "(I)Z"⟩
abbrev cX8_isThere : ByteArray := prog_1_method_47_code
def yX8_isThere : MethodName := ⟨RX8, "isThere", "(I)Z"⟩
abbrev cX8_isThereOrShe : ByteArray := prog_1_method_48_code
def yX8_isThereOrShe : MethodName := ⟨RX8, "isThereOrShe", "(I)Z"⟩
abbrev cX8_areTwo : ByteArray := prog_1_method_49_code
def yX8_areTwo : MethodName := ⟨RX8, "areTwo", "(II)Z"⟩
abbrev cX8_isInBag : ByteArray := prog_1_method_50_code
def yX8_isInBag : MethodName := ⟨RX8, "isInBag", "(I)Z"⟩
abbrev cX8_kindsByRow : ByteArray := prog_1_method_51_code
def yX8_kindsByRow : MethodName := ⟨RX8, "kindsByRow", "(I)I"⟩
abbrev cX8_figuresByRow : ByteArray := prog_1_method_52_code
def yX8_figuresByRow : MethodName := ⟨RX8, "figuresByRow", "(I)I"⟩
abbrev cX8_rowTellsLeads : ByteArray := prog_1_method_53_code
def yX8_rowTellsLeads : MethodName := ⟨RX8, "rowTellsLeads", "(II)Z"⟩
def RX9 : String := "MayReadPencilModel"
def TX9 : u_T := fun k => match k with
  | 0 => ("MayReadPencilModel", "refused", "[I", true)
  | 1 => ("MayReadPencilModel", "kind", "[I", true)
  | 2 => ("MayReadPencilModel", "figure", "[I", true)
  | 3 => ("MayReadPencilModel", "friend", "[I", true)
  | 4 => ("MayReadPencilModel", "from", "[I", true)
  | 5 => ("MayReadPencilModel", "to", "[I", true)
  | 6 => ("MayReadPencilModel", "lead", "[I", true)
  | 7 => ("MayReadPencilModel", "press", "[I", true)
  | 8 => ("MayReadPencilModel", "knows", "[J", true)
  | 9 => ("MayReadPencilModel", "written", "[J", true)
  | 10 => ("MayReadPencilModel", "clauses", "[J", true)
  | 11 => ("MayReadPencilModel", "people", "I", false)
  | 12 => ("MayReadPencilModel", "letters", "I", false)
  | 13 => ("MayReadPencilModel", "rubber", "I", false)
  | 14 => ("MayReadPencilModel", "drawer", "I", false)
  | 15 => ("MayReadPencilModel", "rubbed", "I", false)
  | 16 => ("MayReadPencilModel", "day", "I", false)
  | 17 => ("MayReadPencilModel", "she", "J", false)
  | 18 => ("MayReadPencilModel", "forbidden", "J", false)
  | 19 => ("MayReadPencilModel", "inkers", "I", false)
  | 20 => ("MayReadPencilModel", "spoilt", "I", false)
  | 21 => ("MayReadPencilModel", "isShaded", "Z", false)
  | 22 => ("MayReadPencilModel", "isDamp", "Z", false)
  | 23 => ("MayReadPencilModel", "tape", "[I", true)
  | 24 => ("MayReadPencilModel", "sort", "[I", true)
  | 25 => ("MayReadPencilModel", "sortAt", "[I", true)
  | 26 => ("MayReadPencilModel", "told", "[I", true)
  | 27 => ("MayReadPencilModel", "taped", "I", false)
  | 28 => ("MayReadPencilModel", "reading", "I", false)
  | 29 => ("MayReadPencilModel", "statements", "I", false)
  | 30 => ("MayReadPencilModel", "telling", "I", false)
  | 31 => ("MayReadPencilModel", "kept", "[I", true)
  | 32 => ("MayReadPencilModel", "keptSets", "[J", true)
  | 33 => ("MayReadPencilModel", "hasImage", "Z", false)
  | 34 => ("MayReadPencilModel", "isKeeping", "Z", false)
  | 35 => ("MayReadPencilModel", "cursor", "I", false)
  | 36 => ("MayReadPencilModel", "longCursor", "I", false)
  | 37 => ("MayReadPencilModel", "firstBack", "I", false)
  | 38 => ("MayReadPencilModel", "backs", "I", false)
  | 39 => ("MayReadPencilModel", "row", "[I", true)
  | 40 => ("MayReadPencilModel", "rowMany", "I", false)
  | 41 => ("MayReadPencilModel", "ends", "[I", true)
  | _ => ("MayReadPencilModel", "lots", "I", false)
def tyX9 : Nat → FieldType := fun k => match k with
  | 0 => .array .int
  | 1 => .array .int
  | 2 => .array .int
  | 3 => .array .int
  | 4 => .array .int
  | 5 => .array .int
  | 6 => .array .int
  | 7 => .array .int
  | 8 => .array .long
  | 9 => .array .long
  | 10 => .array .long
  | 11 => .int
  | 12 => .int
  | 13 => .int
  | 14 => .int
  | 15 => .int
  | 16 => .int
  | 17 => .long
  | 18 => .long
  | 19 => .int
  | 20 => .int
  | 21 => .boolean
  | 22 => .boolean
  | 23 => .array .int
  | 24 => .array .int
  | 25 => .array .int
  | 26 => .array .int
  | 27 => .int
  | 28 => .int
  | 29 => .int
  | 30 => .int
  | 31 => .array .int
  | 32 => .array .long
  | 33 => .boolean
  | 34 => .boolean
  | 35 => .int
  | 36 => .int
  | 37 => .int
  | 38 => .int
  | 39 => .array .int
  | 40 => .int
  | 41 => .array .int
  | _ => .int
theorem nmX9 : ∀ a, a < 43 → ∀ b, b < 43 → a ≠ b → (TX9 a).2.1 ≠ (TX9 b).2.1 := by decide +kernel
theorem tyX9_ok : ∀ k, k < 43 → parseFieldDescriptor (TX9 k).2.2.1 = some (tyX9 k) := by decide +kernel
abbrev cX9_init : ByteArray := prog_11_method_1_code
def yX9_init : MethodName := ⟨RX9, "<init>", "()V"⟩
abbrev cX9_no : ByteArray := prog_11_method_2_code
def yX9_no : MethodName := ⟨RX9, "no", "(I)I"⟩
abbrev cX9_lower : ByteArray := prog_11_method_3_code
def yX9_lower : MethodName := ⟨RX9, "lower", "(I)I"⟩
abbrev cX9_lowestOf : ByteArray := prog_11_method_4_code
def yX9_lowestOf : MethodName := ⟨RX9, "lowestOf", "(I)J"⟩
abbrev cX9_isIn : ByteArray := prog_11_method_5_code
def yX9_isIn : MethodName := ⟨RX9, "isIn", "(III)Z"⟩
abbrev cX9_bound : ByteArray := prog_11_method_6_code
def yX9_bound : MethodName := ⟨RX9, "bound", "(III)I"⟩
abbrev cX9_held : ByteArray := prog_11_method_7_code
def yX9_held : MethodName := ⟨RX9, "held", "(II)I"⟩
abbrev cX9_has : ByteArray := prog_11_method_8_code
def yX9_has : MethodName := ⟨RX9, "has", "(JI)Z"⟩
abbrev cX9_bits : ByteArray := prog_11_method_9_code
def yX9_bits : MethodName := ⟨RX9, "bits", "(J)I"⟩
abbrev cX9_leastOf : ByteArray := prog_11_method_10_code
def yX9_leastOf : MethodName := ⟨RX9, "leastOf", "(JI)I"⟩
abbrev cX9_greatestOf : ByteArray := prog_11_method_11_code
def yX9_greatestOf : MethodName := ⟨RX9, "greatestOf", "(J)I"⟩
abbrev cX9_isPerson : ByteArray := prog_11_method_12_code
def yX9_isPerson : MethodName := ⟨RX9, "isPerson", "(I)Z"⟩
abbrev cX9_isKnower : ByteArray := prog_11_method_13_code
def yX9_isKnower : MethodName := ⟨RX9, "isKnower", "(I)Z"⟩
abbrev cX9_knownTo : ByteArray := prog_11_method_14_code
def yX9_knownTo : MethodName := ⟨RX9, "knownTo", "(I)J"⟩
abbrev cX9_leadOf : ByteArray := prog_11_method_15_code
def yX9_leadOf : MethodName := ⟨RX9, "leadOf", "(III)I"⟩
abbrev cX9_leadOfChild : ByteArray := prog_11_method_16_code
def yX9_leadOfChild : MethodName := ⟨RX9, "leadOfChild", "(I)I"⟩
abbrev cX9_pressOf : ByteArray := prog_11_method_17_code
def yX9_pressOf : MethodName := ⟨RX9, "pressOf", "(II)I"⟩
abbrev cX9_everyOf : ByteArray := prog_11_method_18_code
def yX9_everyOf : MethodName := ⟨RX9, "everyOf", "(II)I"⟩
abbrev cX9_picksOf : ByteArray := prog_11_method_19_code
def yX9_picksOf : MethodName := ⟨RX9, "picksOf", "(I)I"⟩
abbrev cX9_isBackward : ByteArray := prog_11_method_20_code
def yX9_isBackward : MethodName := ⟨RX9, "isBackward", "(I)Z"⟩
abbrev cX9_putIn : ByteArray := prog_11_method_21_code
def yX9_putIn : MethodName := ⟨RX9, "putIn", "(I)J"⟩
abbrev cX9_leftOf : ByteArray := prog_11_method_22_code
def yX9_leftOf : MethodName := ⟨RX9, "leftOf", "(I)J"⟩
abbrev cX9_hasLetter : ByteArray := prog_11_method_23_code
def yX9_hasLetter : MethodName := ⟨RX9, "hasLetter", "(I)V"⟩
abbrev cX9_leavesBag : ByteArray := prog_11_method_24_code
def yX9_leavesBag : MethodName := ⟨RX9, "leavesBag", "(I)V"⟩
abbrev cX9_picked : ByteArray := prog_11_method_25_code
def yX9_picked : MethodName := ⟨RX9, "picked", "(I)J"⟩
abbrev cX9_writes : ByteArray := prog_11_method_26_code
def yX9_writes : MethodName := ⟨RX9, "writes", "(I)V"⟩
abbrev cX9_goesDay : ByteArray := prog_11_method_27_code
def yX9_goesDay : MethodName := ⟨RX9, "goesDay", "()V"⟩
abbrev cX9_goes : ByteArray := prog_11_method_28_code
def yX9_goes : MethodName := ⟨RX9, "goes", "(I)V"⟩
abbrev cX9_feed : ByteArray := prog_11_method_29_code
def yX9_feed : MethodName := ⟨RX9, "feed", "(I)I"⟩
abbrev cX9_sign : ByteArray := prog_11_method_30_code
def yX9_sign : MethodName := ⟨RX9, "sign", "()I"⟩
abbrev cX9_readsDigits : ByteArray := prog_11_method_31_code
def yX9_readsDigits : MethodName := ⟨RX9, "readsDigits", "(I)Z"⟩
abbrev cX9_readsAll : ByteArray := prog_11_method_32_code
def yX9_readsAll : MethodName := ⟨RX9, "readsAll", "(I)Z"⟩
abbrev cX9_statement : ByteArray := prog_11_method_33_code
def yX9_statement : MethodName := ⟨RX9, "statement", "()Z"⟩
abbrev cX9_isMore : ByteArray := prog_11_method_34_code
def yX9_isMore : MethodName := ⟨RX9, "isMore", "(II)V"⟩
abbrev cX9_comesPerson : ByteArray := prog_11_method_35_code
def yX9_comesPerson : MethodName := ⟨RX9, "comesPerson", "(II)Z"⟩
abbrev cX9_comesFriend : ByteArray := prog_11_method_36_code
def yX9_comesFriend : MethodName := ⟨RX9, "comesFriend", "(II)Z"⟩
abbrev cX9_comesKnowing : ByteArray := prog_11_method_37_code
def yX9_comesKnowing : MethodName := ⟨RX9, "comesKnowing", "(II)Z"⟩
abbrev cX9_comesForbidding : ByteArray := prog_11_method_38_code
def yX9_comesForbidding : MethodName := ⟨RX9, "comesForbidding", "(I)Z"⟩
abbrev cX9_comesNumber : ByteArray := prog_11_method_39_code
def yX9_comesNumber : MethodName := ⟨RX9, "comesNumber", "(II)Z"⟩
abbrev cX9_comesTold : ByteArray := prog_11_method_40_code
def yX9_comesTold : MethodName := ⟨RX9, "comesTold", "(I)Z"⟩
abbrev cX9_post : ByteArray := prog_11_method_41_code
def yX9_post : MethodName := ⟨RX9, "post", "()I"⟩
abbrev cX9_passes : ByteArray := prog_11_method_42_code
def yX9_passes : MethodName := ⟨RX9, "passes", "([I)V"⟩
abbrev cX9_passesSets : ByteArray := prog_11_method_43_code
def yX9_passesSets : MethodName := ⟨RX9, "passesSets", "([J)V"⟩
abbrev cX9_passOne : ByteArray := prog_11_method_44_code
def yX9_passOne : MethodName := ⟨RX9, "passOne", "(I)I"⟩
abbrev cX9_passSet : ByteArray := prog_11_method_45_code
def yX9_passSet : MethodName := ⟨RX9, "passSet", "(J)J"⟩
abbrev cX9_passesAll : ByteArray := prog_11_method_46_code
def yX9_passesAll : MethodName := ⟨RX9, "passesAll", "(IZ)V"⟩
abbrev cX9_minds : ByteArray := prog_11_method_47_code
def yX9_minds : MethodName := ⟨RX9, "minds", "()V"⟩
abbrev cX9_forgets : ByteArray := prog_11_method_48_code
def yX9_forgets : MethodName := ⟨RX9, "forgets", "()V"⟩
abbrev cX9_remembers : ByteArray := prog_11_method_49_code
def yX9_remembers : MethodName := ⟨RX9, "remembers", "()V"⟩
abbrev cX9_back : ByteArray := prog_11_method_50_code
def yX9_back : MethodName := ⟨RX9, "back", "()I"⟩
abbrev cX9_image : ByteArray := prog_11_method_51_code
def yX9_image : MethodName := ⟨RX9, "image", "()I"⟩
abbrev cX9_restore : ByteArray := prog_11_method_52_code
def yX9_restore : MethodName := ⟨RX9, "restore", "()I"⟩
abbrev cX9_person : ByteArray := prog_11_method_53_code
def yX9_person : MethodName := ⟨RX9, "person", "(II)I"⟩
abbrev cX9_notSecret : ByteArray := prog_11_method_54_code
def yX9_notSecret : MethodName := ⟨RX9, "notSecret", "(II)I"⟩
abbrev cX9_knows : ByteArray := prog_11_method_55_code
def yX9_knows : MethodName := ⟨RX9, "knows", "(II)I"⟩
abbrev cX9_above : ByteArray := prog_11_method_56_code
def yX9_above : MethodName := ⟨RX9, "above", "(II)I"⟩
abbrev cX9_letter : ByteArray := prog_11_method_57_code
def yX9_letter : MethodName := ⟨RX9, "letter", "(II)I"⟩
abbrev cX9_comes : ByteArray := prog_11_method_58_code
def yX9_comes : MethodName := ⟨RX9, "comes", "(II)I"⟩
abbrev cX9_friend : ByteArray := prog_11_method_59_code
def yX9_friend : MethodName := ⟨RX9, "friend", "(II)I"⟩
abbrev cX9_tells : ByteArray := prog_11_method_60_code
def yX9_tells : MethodName := ⟨RX9, "tells", "(II)I"⟩
abbrev cX9_forbids : ByteArray := prog_11_method_61_code
def yX9_forbids : MethodName := ⟨RX9, "forbids", "(I)I"⟩
abbrev cX9_rubber : ByteArray := prog_11_method_62_code
def yX9_rubber : MethodName := ⟨RX9, "rubber", "(I)I"⟩
abbrev cX9_recalls : ByteArray := prog_11_method_63_code
def yX9_recalls : MethodName := ⟨RX9, "recalls", "(I)I"⟩
abbrev cX9_days : ByteArray := prog_11_method_64_code
def yX9_days : MethodName := ⟨RX9, "days", "(I)I"⟩
abbrev cX9_knownBehind : ByteArray := prog_11_method_65_code
def yX9_knownBehind : MethodName := ⟨RX9, "knownBehind", "(II)I"⟩
abbrev cX9_knownIn : ByteArray := prog_11_method_66_code
def yX9_knownIn : MethodName := ⟨RX9, "knownIn", "(II)I"⟩
abbrev cX9_allKnown : ByteArray := prog_11_method_67_code
def yX9_allKnown : MethodName := ⟨RX9, "allKnown", "()I"⟩
abbrev cX9_then : ByteArray := prog_11_method_68_code
def yX9_then : MethodName := ⟨RX9, "then", "(II)I"⟩
abbrev cX9_whenFrom : ByteArray := prog_11_method_69_code
def yX9_whenFrom : MethodName := ⟨RX9, "whenFrom", "(II)I"⟩
abbrev cX9_when : ByteArray := prog_11_method_70_code
def yX9_when : MethodName := ⟨RX9, "when", "(II)I"⟩
abbrev cX9_unknowing : ByteArray := prog_11_method_71_code
def yX9_unknowing : MethodName := ⟨RX9, "unknowing", "(I)I"⟩
abbrev cX9_first : ByteArray := prog_11_method_72_code
def yX9_first : MethodName := ⟨RX9, "first", "(I)I"⟩
abbrev cX9_letHer : ByteArray := prog_11_method_73_code
def yX9_letHer : MethodName := ⟨RX9, "letHer", "(III)I"⟩
abbrev cX9_isKnownBehind : ByteArray := prog_11_method_74_code
def yX9_isKnownBehind : MethodName := ⟨RX9, "isKnownBehind", "(III)Z"⟩
abbrev cX9_rubberFor : ByteArray := prog_11_method_75_code
def yX9_rubberFor : MethodName := ⟨RX9, "rubberFor", "(III)I"⟩
abbrev cX9_ink : ByteArray := prog_11_method_76_code
def yX9_ink : MethodName := ⟨RX9, "ink", "(II)I"⟩
abbrev cX9_friendFor : ByteArray := prog_11_method_77_code
def yX9_friendFor : MethodName := ⟨RX9, "friendFor", "(IIII)I"⟩
abbrev cX9_allKnownBehind : ByteArray := prog_11_method_78_code
def yX9_allKnownBehind : MethodName := ⟨RX9, "allKnownBehind", "(I)I"⟩
abbrev cX9_changesFor : ByteArray := prog_11_method_79_code
def yX9_changesFor : MethodName := ⟨RX9, "changesFor", "([III)V"⟩
abbrev cX9_swap : ByteArray := prog_11_method_80_code
def yX9_swap : MethodName := ⟨RX9, "swap", "(I)I"⟩
abbrev cX9_shade : ByteArray := prog_11_method_81_code
def yX9_shade : MethodName := ⟨RX9, "shade", "(I)I"⟩
abbrev cX9_isLedSo : ByteArray := prog_11_method_82_code
def yX9_isLedSo : MethodName := ⟨RX9, "isLedSo", "(II)Z"⟩
abbrev cX9_whatKind : ByteArray := prog_11_method_83_code
def yX9_whatKind : MethodName := ⟨RX9, "whatKind", "(II)I"⟩
abbrev cX9_isKnownSo : ByteArray := prog_11_method_84_code
def yX9_isKnownSo : MethodName := ⟨RX9, "isKnownSo", "(I)Z"⟩
abbrev cX9_toWhom : ByteArray := prog_11_method_85_code
def yX9_toWhom : MethodName := ⟨RX9, "toWhom", "(II)I"⟩
abbrev cX9_endFor : ByteArray := prog_11_method_86_code
def yX9_endFor : MethodName := ⟨RX9, "endFor", "(IJ)I"⟩
abbrev cX9_findEnds : ByteArray := prog_11_method_87_code
def yX9_findEnds : MethodName := ⟨RX9, "findEnds", "(III)V"⟩
abbrev cX9_two : ByteArray := prog_11_method_88_code
def yX9_two : MethodName := ⟨RX9, "two", "(III)I"⟩
abbrev cX9_divisor : ByteArray := prog_11_method_89_code
def yX9_divisor : MethodName := ⟨RX9, "divisor", "(JJ)J"⟩
abbrev cX9_partOf : ByteArray := prog_11_method_90_code
def yX9_partOf : MethodName := ⟨RX9, "partOf", "(JJI)J"⟩
abbrev cX9_damp : ByteArray := prog_11_method_91_code
def yX9_damp : MethodName := ⟨RX9, "damp", "(IIIII)J"⟩
abbrev cX9_goesFurther : ByteArray := prog_11_method_92_code
def yX9_goesFurther : MethodName := ⟨RX9, "goesFurther", "(I)Z"⟩
abbrev cX9_reachOf : ByteArray := prog_11_method_93_code
def yX9_reachOf : MethodName := ⟨RX9, "reachOf", "(I)I"⟩
abbrev cX9_ringOf : ByteArray := prog_11_method_94_code
def yX9_ringOf : MethodName := ⟨RX9, "ringOf", "(I)I"⟩
abbrev cX9_reach : ByteArray := prog_11_method_95_code
def yX9_reach : MethodName := ⟨RX9, "reach", "(II)I"⟩
abbrev cX9_common : ByteArray := prog_11_method_96_code
def yX9_common : MethodName := ⟨RX9, "common", "(III)I"⟩
abbrev cX9_knowers : ByteArray := prog_11_method_97_code
def yX9_knowers : MethodName := ⟨RX9, "knowers", "(I)I"⟩
abbrev cX9_rarest : ByteArray := prog_11_method_98_code
def yX9_rarest : MethodName := ⟨RX9, "rarest", "(I)I"⟩
abbrev cX9_share : ByteArray := prog_11_method_99_code
def yX9_share : MethodName := ⟨RX9, "share", "(I)J"⟩
abbrev cX9_lamp : ByteArray := prog_11_method_100_code
def yX9_lamp : MethodName := ⟨RX9, "lamp", "(I)I"⟩
abbrev cX9_spoiltNow : ByteArray := prog_11_method_101_code
def yX9_spoiltNow : MethodName := ⟨RX9, "spoiltNow", "()I"⟩
abbrev cX9_still : ByteArray := prog_11_method_102_code
def yX9_still : MethodName := ⟨RX9, "still", "()I"⟩
abbrev cX9_lettersFrom : ByteArray := prog_11_method_103_code
def yX9_lettersFrom : MethodName := ⟨RX9, "lettersFrom", "(I)I"⟩
abbrev cX9_busiest : ByteArray := prog_11_method_104_code
def yX9_busiest : MethodName := ⟨RX9, "busiest", "()I"⟩
abbrev cX9_bag : ByteArray := prog_11_method_105_code
def yX9_bag : MethodName := ⟨RX9, "bag", "(I)I"⟩
abbrev cX9_kinds : ByteArray := prog_11_method_106_code
def yX9_kinds : MethodName := ⟨RX9, "kinds", "(I)I"⟩
abbrev cX9_row : ByteArray := prog_11_method_107_code
def yX9_row : MethodName := ⟨RX9, "row", "(I)I"⟩
abbrev cX9_judge : ByteArray := prog_11_method_108_code
def yX9_judge : MethodName := ⟨RX9, "judge", "()I"⟩
abbrev cX9_clear : ByteArray := prog_11_method_109_code
def yX9_clear : MethodName := ⟨RX9, "clear", "()I"⟩
abbrev cX9_draw : ByteArray := prog_11_method_110_code
def yX9_draw : MethodName := ⟨RX9, "draw", "(I)I"⟩
abbrev cX9_knowsByLot : ByteArray := prog_11_method_111_code
def yX9_knowsByLot : MethodName := ⟨RX9, "knowsByLot", "()V"⟩
abbrev cX9_lots : ByteArray := prog_11_method_112_code
def yX9_lots : MethodName := ⟨RX9, "lots", "(III)I"⟩
abbrev cX9_count : ByteArray := prog_11_method_113_code
def yX9_count : MethodName := ⟨RX9, "count", "(I)I"⟩
def RJ6 : String := "java/lang/Integer"
def TJ6 : u_T := fun k => match k with
  | _ => ("", "", "", false)
def tyJ6 : Nat → FieldType := fun k => match k with
  | _ => .int
abbrev wsJ60 : List Cond := u_ws RJ6 TJ6 0
theorem nmJ6 : ∀ a, a < 0 → ∀ b, b < 0 → a ≠ b → (TJ6 a).2.1 ≠ (TJ6 b).2.1 := by decide +kernel
theorem tyJ6_ok : ∀ k, k < 0 → parseFieldDescriptor (TJ6 k).2.2.1 = some (tyJ6 k) := by decide +kernel
abbrev cJ6_bitCount_0f7a4 : ByteArray := prog_12_method_49_code
def yJ6_bitCount_0f7a4 : MethodName := ⟨RJ6, "bitCount", "(I)I"⟩
def RJ13 : String := "java/lang/Long"
def TJ13 : u_T := fun k => match k with
  | _ => ("", "", "", false)
def tyJ13 : Nat → FieldType := fun k => match k with
  | _ => .int
abbrev wsJ130 : List Cond := u_ws RJ13 TJ13 0
theorem nmJ13 : ∀ a, a < 0 → ∀ b, b < 0 → a ≠ b → (TJ13 a).2.1 ≠ (TJ13 b).2.1 := by decide +kernel
theorem tyJ13_ok : ∀ k, k < 0 → parseFieldDescriptor (TJ13 k).2.2.1 = some (tyJ13 k) := by decide +kernel
abbrev cJ13_bitCount_95d88 : ByteArray := prog_13_method_50_code
def yJ13_bitCount_95d88 : MethodName := ⟨RJ13, "bitCount", "(J)I"⟩
def RJ9 : String := "java/lang/Math"
def TJ9 : u_T := fun k => match k with
  | _ => ("", "", "", false)
def tyJ9 : Nat → FieldType := fun k => match k with
  | _ => .int
abbrev wsJ90 : List Cond := u_ws RJ9 TJ9 0
theorem nmJ9 : ∀ a, a < 0 → ∀ b, b < 0 → a ≠ b → (TJ9 a).2.1 ≠ (TJ9 b).2.1 := by decide +kernel
theorem tyJ9_ok : ∀ k, k < 0 → parseFieldDescriptor (TJ9 k).2.2.1 = some (tyJ9 k) := by decide +kernel
abbrev cJ9_max_7cf53 : ByteArray := prog_14_method_65_code
def yJ9_max_7cf53 : MethodName := ⟨RJ9, "max", "(II)I"⟩
abbrev cJ9_min_7cf53 : ByteArray := prog_14_method_69_code
def yJ9_min_7cf53 : MethodName := ⟨RJ9, "min", "(II)I"⟩
def RJ10 : String := "java/lang/System"
def TJ10 : u_T := fun k => match k with
  | _ => ("", "", "", false)
def tyJ10 : Nat → FieldType := fun k => match k with
  | _ => .int
abbrev wsJ100 : List Cond := u_ws RJ10 TJ10 0
theorem nmJ10 : ∀ a, a < 0 → ∀ b, b < 0 → a ≠ b → (TJ10 a).2.1 ≠ (TJ10 b).2.1 := by decide +kernel
theorem tyJ10_ok : ∀ k, k < 0 → parseFieldDescriptor (TJ10 k).2.2.1 = some (tyJ10 k) := by decide +kernel
def RL : String := "MayReadPencilLaw"
abbrev cL_law : ByteArray := code
def yL_law : MethodName := ⟨RL, "law", "([I)Z"⟩
