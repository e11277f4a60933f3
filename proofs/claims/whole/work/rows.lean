section
-- ===== PART A: goes FIRST, ahead of the names: the tables' words, and 'selects' of the private methods out of them =====
/-- a private method of a class that the tables say can be made, by its rows of tables_1 -/
def lw_okq (q : MethodName × Nat) : Prop := (q.1.cls ≠ "java/lang/invoke/MethodHandle" ∧ q.1.cls ≠ "java/lang/invoke/VarHandle") ∧ Cond.instantiable q.1.cls q.2 ∈ tables_1 ∧ Cond.privateMethod q.1 ∈ tables_1 ∧ Cond.instanceMethod q.1 ∈ tables_1
theorem lw_p0 : lw_okq (⟨"MeetingOrders$WeekBook", "greatestDebt", "(LMeetingOrders$State;)I"⟩, 8) := ⟨⟨by decide +kernel, by decide +kernel⟩, List.mem_of_getElem? (i := 109) (by decide +kernel), List.mem_of_getElem? (i := 283) (by decide +kernel), List.mem_of_getElem? (i := 284) (by decide +kernel)⟩
theorem lw_p1 : lw_okq (⟨"MeetingOrders$WeekBook", "freestEscort", "(LMeetingOrders$State;I)I"⟩, 8) := ⟨⟨by decide +kernel, by decide +kernel⟩, List.mem_of_getElem? (i := 109) (by decide +kernel), List.mem_of_getElem? (i := 295) (by decide +kernel), List.mem_of_getElem? (i := 296) (by decide +kernel)⟩
theorem lw_p2 : lw_okq (⟨"MeetingOrders$WeekBook", "firstVenue", "(LMeetingOrders$State;II)I"⟩, 8) := ⟨⟨by decide +kernel, by decide +kernel⟩, List.mem_of_getElem? (i := 109) (by decide +kernel), List.mem_of_getElem? (i := 299) (by decide +kernel), List.mem_of_getElem? (i := 300) (by decide +kernel)⟩
theorem lw_p3 : lw_okq (⟨"MeetingOrders$OrderText", "readOrder", "()Z"⟩, 8) := ⟨⟨by decide +kernel, by decide +kernel⟩, List.mem_of_getElem? (i := 143) (by decide +kernel), List.mem_of_getElem? (i := 358) (by decide +kernel), List.mem_of_getElem? (i := 359) (by decide +kernel)⟩
theorem lw_p4 : lw_okq (⟨"MeetingOrders$OrderText", "byteHere", "()I"⟩, 8) := ⟨⟨by decide +kernel, by decide +kernel⟩, List.mem_of_getElem? (i := 143) (by decide +kernel), List.mem_of_getElem? (i := 362) (by decide +kernel), List.mem_of_getElem? (i := 363) (by decide +kernel)⟩
theorem lw_p5 : lw_okq (⟨"MeetingOrders$OrderText", "readDigit", "(ILMeetingOrders$Row;)Z"⟩, 8) := ⟨⟨by decide +kernel, by decide +kernel⟩, List.mem_of_getElem? (i := 143) (by decide +kernel), List.mem_of_getElem? (i := 368) (by decide +kernel), List.mem_of_getElem? (i := 369) (by decide +kernel)⟩
theorem lw_p6 : lw_okq (⟨"MeetingOrders$OrderText", "isDigitHere", "()Z"⟩, 8) := ⟨⟨by decide +kernel, by decide +kernel⟩, List.mem_of_getElem? (i := 143) (by decide +kernel), List.mem_of_getElem? (i := 372) (by decide +kernel), List.mem_of_getElem? (i := 373) (by decide +kernel)⟩
theorem lw_p7 : lw_okq (⟨"MeetingOrders$OrderText", "readNumber", "(ILMeetingOrders$Row;)Z"⟩, 8) := ⟨⟨by decide +kernel, by decide +kernel⟩, List.mem_of_getElem? (i := 143) (by decide +kernel), List.mem_of_getElem? (i := 376) (by decide +kernel), List.mem_of_getElem? (i := 377) (by decide +kernel)⟩
theorem lw_p8 : lw_okq (⟨"MeetingOrders$OrderText", "readSign", "(I)Z"⟩, 8) := ⟨⟨by decide +kernel, by decide +kernel⟩, List.mem_of_getElem? (i := 143) (by decide +kernel), List.mem_of_getElem? (i := 380) (by decide +kernel), List.mem_of_getElem? (i := 381) (by decide +kernel)⟩
theorem lw_p9 : lw_okq (⟨"MeetingOrders", "save", "()V"⟩, 6) := ⟨⟨by decide +kernel, by decide +kernel⟩, List.mem_of_getElem? (i := 16) (by decide +kernel), List.mem_of_getElem? (i := 384) (by decide +kernel), List.mem_of_getElem? (i := 385) (by decide +kernel)⟩
theorem lw_p10 : lw_okq (⟨"MeetingOrders", "carryOutOne", "(IIII)Z"⟩, 6) := ⟨⟨by decide +kernel, by decide +kernel⟩, List.mem_of_getElem? (i := 16) (by decide +kernel), List.mem_of_getElem? (i := 389) (by decide +kernel), List.mem_of_getElem? (i := 390) (by decide +kernel)⟩
theorem lw_p11 : lw_okq (⟨"MeetingOrders", "mayChange", "(II)Z"⟩, 6) := ⟨⟨by decide +kernel, by decide +kernel⟩, List.mem_of_getElem? (i := 16) (by decide +kernel), List.mem_of_getElem? (i := 397) (by decide +kernel), List.mem_of_getElem? (i := 398) (by decide +kernel)⟩
theorem lw_p12 : lw_okq (⟨"MeetingOrders", "settleIfOpen", "(II)Z"⟩, 6) := ⟨⟨by decide +kernel, by decide +kernel⟩, List.mem_of_getElem? (i := 16) (by decide +kernel), List.mem_of_getElem? (i := 415) (by decide +kernel), List.mem_of_getElem? (i := 416) (by decide +kernel)⟩
theorem lw_p13 : lw_okq (⟨"java/lang/Throwable", "fillInStackTrace", "(I)Ljava/lang/Throwable;"⟩, 6) := ⟨⟨by decide +kernel, by decide +kernel⟩, List.mem_of_getElem? (i := 477) (by decide +kernel), List.mem_of_getElem? (i := 475) (by decide +kernel), List.mem_of_getElem? (i := 476) (by decide +kernel)⟩
theorem lw_p14 : lw_okq (⟨"MeetingOrders", "digestOfOrder", "(JI)J"⟩, 6) := ⟨⟨by decide +kernel, by decide +kernel⟩, List.mem_of_getElem? (i := 16) (by decide +kernel), List.mem_of_getElem? (i := 507) (by decide +kernel), List.mem_of_getElem? (i := 508) (by decide +kernel)⟩
theorem lw_p15 : lw_okq (⟨"MeetingOrders", "digestOfMeeting", "(JI)J"⟩, 6) := ⟨⟨by decide +kernel, by decide +kernel⟩, List.mem_of_getElem? (i := 16) (by decide +kernel), List.mem_of_getElem? (i := 549) (by decide +kernel), List.mem_of_getElem? (i := 550) (by decide +kernel)⟩
def lw_privs_1 : List (MethodName × Nat) := [(⟨"MeetingOrders$WeekBook", "greatestDebt", "(LMeetingOrders$State;)I"⟩, 8), (⟨"MeetingOrders$WeekBook", "freestEscort", "(LMeetingOrders$State;I)I"⟩, 8), (⟨"MeetingOrders$WeekBook", "firstVenue", "(LMeetingOrders$State;II)I"⟩, 8), (⟨"MeetingOrders$OrderText", "readOrder", "()Z"⟩, 8), (⟨"MeetingOrders$OrderText", "byteHere", "()I"⟩, 8), (⟨"MeetingOrders$OrderText", "readDigit", "(ILMeetingOrders$Row;)Z"⟩, 8), (⟨"MeetingOrders$OrderText", "isDigitHere", "()Z"⟩, 8), (⟨"MeetingOrders$OrderText", "readNumber", "(ILMeetingOrders$Row;)Z"⟩, 8), (⟨"MeetingOrders$OrderText", "readSign", "(I)Z"⟩, 8), (⟨"MeetingOrders", "save", "()V"⟩, 6), (⟨"MeetingOrders", "carryOutOne", "(IIII)Z"⟩, 6), (⟨"MeetingOrders", "mayChange", "(II)Z"⟩, 6), (⟨"MeetingOrders", "settleIfOpen", "(II)Z"⟩, 6), (⟨"java/lang/Throwable", "fillInStackTrace", "(I)Ljava/lang/Throwable;"⟩, 6), (⟨"MeetingOrders", "digestOfOrder", "(JI)J"⟩, 6), (⟨"MeetingOrders", "digestOfMeeting", "(JI)J"⟩, 6)]
theorem lw_r1 : ∀ q ∈ lw_privs_1, lw_okq q := List.forall_mem_cons.mpr ⟨lw_p0, List.forall_mem_cons.mpr ⟨lw_p1, List.forall_mem_cons.mpr ⟨lw_p2, List.forall_mem_cons.mpr ⟨lw_p3, List.forall_mem_cons.mpr ⟨lw_p4, List.forall_mem_cons.mpr ⟨lw_p5, List.forall_mem_cons.mpr ⟨lw_p6, List.forall_mem_cons.mpr ⟨lw_p7, List.forall_mem_cons.mpr ⟨lw_p8, List.forall_mem_cons.mpr ⟨lw_p9, List.forall_mem_cons.mpr ⟨lw_p10, List.forall_mem_cons.mpr ⟨lw_p11, List.forall_mem_cons.mpr ⟨lw_p12, List.forall_mem_cons.mpr ⟨lw_p13, List.forall_mem_cons.mpr ⟨lw_p14, List.forall_mem_cons.mpr ⟨lw_p15, fun _ h => absurd h List.not_mem_nil⟩⟩⟩⟩⟩⟩⟩⟩⟩⟩⟩⟩⟩⟩⟩⟩
theorem lw_p16 : lw_okq (⟨"MeetingOrders", "reasonAgainst", "(IIIII)I"⟩, 6) := ⟨⟨by decide +kernel, by decide +kernel⟩, List.mem_of_getElem? (i := 16) (by decide +kernel), List.mem_of_getElem? (i := 662) (by decide +kernel), List.mem_of_getElem? (i := 663) (by decide +kernel)⟩
theorem lw_p17 : lw_okq (⟨"MeetingOrdersModel", "areVenues", "(I)Z"⟩, 15) := ⟨⟨by decide +kernel, by decide +kernel⟩, List.mem_of_getElem? (i := 804) (by decide +kernel), List.mem_of_getElem? (i := 868) (by decide +kernel), List.mem_of_getElem? (i := 869) (by decide +kernel)⟩
theorem lw_p18 : lw_okq (⟨"MeetingOrdersModel", "goes", "(ZZZ)Z"⟩, 15) := ⟨⟨by decide +kernel, by decide +kernel⟩, List.mem_of_getElem? (i := 804) (by decide +kernel), List.mem_of_getElem? (i := 872) (by decide +kernel), List.mem_of_getElem? (i := 873) (by decide +kernel)⟩
theorem lw_p19 : lw_okq (⟨"MeetingOrdersModel", "save", "()V"⟩, 15) := ⟨⟨by decide +kernel, by decide +kernel⟩, List.mem_of_getElem? (i := 804) (by decide +kernel), List.mem_of_getElem? (i := 876) (by decide +kernel), List.mem_of_getElem? (i := 877) (by decide +kernel)⟩
theorem lw_p20 : lw_okq (⟨"MeetingOrdersModel", "isOrder", "(I)Z"⟩, 15) := ⟨⟨by decide +kernel, by decide +kernel⟩, List.mem_of_getElem? (i := 804) (by decide +kernel), List.mem_of_getElem? (i := 884) (by decide +kernel), List.mem_of_getElem? (i := 885) (by decide +kernel)⟩
theorem lw_p21 : lw_okq (⟨"MeetingOrdersModel", "mayChange", "(II)Z"⟩, 15) := ⟨⟨by decide +kernel, by decide +kernel⟩, List.mem_of_getElem? (i := 804) (by decide +kernel), List.mem_of_getElem? (i := 888) (by decide +kernel), List.mem_of_getElem? (i := 889) (by decide +kernel)⟩
theorem lw_p22 : lw_okq (⟨"MeetingOrdersModel", "changes", "(III)V"⟩, 15) := ⟨⟨by decide +kernel, by decide +kernel⟩, List.mem_of_getElem? (i := 804) (by decide +kernel), List.mem_of_getElem? (i := 893) (by decide +kernel), List.mem_of_getElem? (i := 894) (by decide +kernel)⟩
theorem lw_p23 : lw_okq (⟨"MeetingOrdersModel", "exchange", "(II)I"⟩, 15) := ⟨⟨by decide +kernel, by decide +kernel⟩, List.mem_of_getElem? (i := 804) (by decide +kernel), List.mem_of_getElem? (i := 901) (by decide +kernel), List.mem_of_getElem? (i := 902) (by decide +kernel)⟩
theorem lw_p24 : lw_okq (⟨"MeetingOrdersModel", "isEscort", "(I)Z"⟩, 15) := ⟨⟨by decide +kernel, by decide +kernel⟩, List.mem_of_getElem? (i := 804) (by decide +kernel), List.mem_of_getElem? (i := 915) (by decide +kernel), List.mem_of_getElem? (i := 916) (by decide +kernel)⟩
theorem lw_p25 : lw_okq (⟨"MeetingOrdersModel", "areThere", "(III)Z"⟩, 15) := ⟨⟨by decide +kernel, by decide +kernel⟩, List.mem_of_getElem? (i := 804) (by decide +kernel), List.mem_of_getElem? (i := 928) (by decide +kernel), List.mem_of_getElem? (i := 929) (by decide +kernel)⟩
theorem lw_p26 : lw_okq (⟨"MeetingOrdersModel", "isVenue", "(I)Z"⟩, 15) := ⟨⟨by decide +kernel, by decide +kernel⟩, List.mem_of_getElem? (i := 804) (by decide +kernel), List.mem_of_getElem? (i := 932) (by decide +kernel), List.mem_of_getElem? (i := 933) (by decide +kernel)⟩
theorem lw_p27 : lw_okq (⟨"MeetingOrdersModel", "reason", "(IIIII)I"⟩, 15) := ⟨⟨by decide +kernel, by decide +kernel⟩, List.mem_of_getElem? (i := 804) (by decide +kernel), List.mem_of_getElem? (i := 943) (by decide +kernel), List.mem_of_getElem? (i := 944) (by decide +kernel)⟩
theorem lw_p28 : lw_okq (⟨"MeetingOrdersModel", "look", "(I)V"⟩, 15) := ⟨⟨by decide +kernel, by decide +kernel⟩, List.mem_of_getElem? (i := 804) (by decide +kernel), List.mem_of_getElem? (i := 950) (by decide +kernel), List.mem_of_getElem? (i := 951) (by decide +kernel)⟩
theorem lw_p29 : lw_okq (⟨"MeetingOrdersModel", "stands", "(II)Z"⟩, 15) := ⟨⟨by decide +kernel, by decide +kernel⟩, List.mem_of_getElem? (i := 804) (by decide +kernel), List.mem_of_getElem? (i := 954) (by decide +kernel), List.mem_of_getElem? (i := 955) (by decide +kernel)⟩
theorem lw_p30 : lw_okq (⟨"MeetingOrdersModel", "of", "(II)I"⟩, 15) := ⟨⟨by decide +kernel, by decide +kernel⟩, List.mem_of_getElem? (i := 804) (by decide +kernel), List.mem_of_getElem? (i := 958) (by decide +kernel), List.mem_of_getElem? (i := 959) (by decide +kernel)⟩
theorem lw_p31 : lw_okq (⟨"MeetingOrdersModel", "whyEscort", "(II)I"⟩, 15) := ⟨⟨by decide +kernel, by decide +kernel⟩, List.mem_of_getElem? (i := 804) (by decide +kernel), List.mem_of_getElem? (i := 962) (by decide +kernel), List.mem_of_getElem? (i := 963) (by decide +kernel)⟩
def lw_privs_2 : List (MethodName × Nat) := [(⟨"MeetingOrders", "reasonAgainst", "(IIIII)I"⟩, 6), (⟨"MeetingOrdersModel", "areVenues", "(I)Z"⟩, 15), (⟨"MeetingOrdersModel", "goes", "(ZZZ)Z"⟩, 15), (⟨"MeetingOrdersModel", "save", "()V"⟩, 15), (⟨"MeetingOrdersModel", "isOrder", "(I)Z"⟩, 15), (⟨"MeetingOrdersModel", "mayChange", "(II)Z"⟩, 15), (⟨"MeetingOrdersModel", "changes", "(III)V"⟩, 15), (⟨"MeetingOrdersModel", "exchange", "(II)I"⟩, 15), (⟨"MeetingOrdersModel", "isEscort", "(I)Z"⟩, 15), (⟨"MeetingOrdersModel", "areThere", "(III)Z"⟩, 15), (⟨"MeetingOrdersModel", "isVenue", "(I)Z"⟩, 15), (⟨"MeetingOrdersModel", "reason", "(IIIII)I"⟩, 15), (⟨"MeetingOrdersModel", "look", "(I)V"⟩, 15), (⟨"MeetingOrdersModel", "stands", "(II)Z"⟩, 15), (⟨"MeetingOrdersModel", "of", "(II)I"⟩, 15), (⟨"MeetingOrdersModel", "whyEscort", "(II)I"⟩, 15)]
theorem lw_r2 : ∀ q ∈ lw_privs_2, lw_okq q := List.forall_mem_cons.mpr ⟨lw_p16, List.forall_mem_cons.mpr ⟨lw_p17, List.forall_mem_cons.mpr ⟨lw_p18, List.forall_mem_cons.mpr ⟨lw_p19, List.forall_mem_cons.mpr ⟨lw_p20, List.forall_mem_cons.mpr ⟨lw_p21, List.forall_mem_cons.mpr ⟨lw_p22, List.forall_mem_cons.mpr ⟨lw_p23, List.forall_mem_cons.mpr ⟨lw_p24, List.forall_mem_cons.mpr ⟨lw_p25, List.forall_mem_cons.mpr ⟨lw_p26, List.forall_mem_cons.mpr ⟨lw_p27, List.forall_mem_cons.mpr ⟨lw_p28, List.forall_mem_cons.mpr ⟨lw_p29, List.forall_mem_cons.mpr ⟨lw_p30, List.forall_mem_cons.mpr ⟨lw_p31, fun _ h => absurd h List.not_mem_nil⟩⟩⟩⟩⟩⟩⟩⟩⟩⟩⟩⟩⟩⟩⟩⟩
theorem lw_p32 : lw_okq (⟨"MeetingOrdersModel", "lays", "(IIIII)V"⟩, 15) := ⟨⟨by decide +kernel, by decide +kernel⟩, List.mem_of_getElem? (i := 804) (by decide +kernel), List.mem_of_getElem? (i := 966) (by decide +kernel), List.mem_of_getElem? (i := 967) (by decide +kernel)⟩
theorem lw_p33 : lw_okq (⟨"MeetingOrdersModel", "plans", "(I)I"⟩, 15) := ⟨⟨by decide +kernel, by decide +kernel⟩, List.mem_of_getElem? (i := 804) (by decide +kernel), List.mem_of_getElem? (i := 974) (by decide +kernel), List.mem_of_getElem? (i := 975) (by decide +kernel)⟩
theorem lw_p34 : lw_okq (⟨"MeetingOrdersModel", "plansOne", "(I)Z"⟩, 15) := ⟨⟨by decide +kernel, by decide +kernel⟩, List.mem_of_getElem? (i := 804) (by decide +kernel), List.mem_of_getElem? (i := 978) (by decide +kernel), List.mem_of_getElem? (i := 979) (by decide +kernel)⟩
theorem lw_p35 : lw_okq (⟨"MeetingOrdersModel", "owes", "(II)I"⟩, 15) := ⟨⟨by decide +kernel, by decide +kernel⟩, List.mem_of_getElem? (i := 804) (by decide +kernel), List.mem_of_getElem? (i := 982) (by decide +kernel), List.mem_of_getElem? (i := 983) (by decide +kernel)⟩
theorem lw_p36 : lw_okq (⟨"MeetingOrdersModel", "slotFor", "(II)I"⟩, 15) := ⟨⟨by decide +kernel, by decide +kernel⟩, List.mem_of_getElem? (i := 804) (by decide +kernel), List.mem_of_getElem? (i := 986) (by decide +kernel), List.mem_of_getElem? (i := 987) (by decide +kernel)⟩
theorem lw_p37 : lw_okq (⟨"MeetingOrdersModel", "venueFor", "(II)I"⟩, 15) := ⟨⟨by decide +kernel, by decide +kernel⟩, List.mem_of_getElem? (i := 804) (by decide +kernel), List.mem_of_getElem? (i := 990) (by decide +kernel), List.mem_of_getElem? (i := 991) (by decide +kernel)⟩
theorem lw_p38 : lw_okq (⟨"MeetingOrdersModel", "escortFor", "(I)I"⟩, 15) := ⟨⟨by decide +kernel, by decide +kernel⟩, List.mem_of_getElem? (i := 804) (by decide +kernel), List.mem_of_getElem? (i := 994) (by decide +kernel), List.mem_of_getElem? (i := 995) (by decide +kernel)⟩
theorem lw_p39 : lw_okq (⟨"MeetingOrdersModel", "placeOf", "(I)I"⟩, 15) := ⟨⟨by decide +kernel, by decide +kernel⟩, List.mem_of_getElem? (i := 804) (by decide +kernel), List.mem_of_getElem? (i := 1002) (by decide +kernel), List.mem_of_getElem? (i := 1003) (by decide +kernel)⟩
theorem lw_p40 : lw_okq (⟨"MeetingOrdersModel", "takeOut", "(I)V"⟩, 15) := ⟨⟨by decide +kernel, by decide +kernel⟩, List.mem_of_getElem? (i := 804) (by decide +kernel), List.mem_of_getElem? (i := 1006) (by decide +kernel), List.mem_of_getElem? (i := 1007) (by decide +kernel)⟩
theorem lw_p41 : lw_okq (⟨"MeetingOrdersModel", "mayTell", "(I)Z"⟩, 15) := ⟨⟨by decide +kernel, by decide +kernel⟩, List.mem_of_getElem? (i := 804) (by decide +kernel), List.mem_of_getElem? (i := 1014) (by decide +kernel), List.mem_of_getElem? (i := 1015) (by decide +kernel)⟩
theorem lw_p42 : lw_okq (⟨"MeetingOrdersModel", "tells", "(IZ)V"⟩, 15) := ⟨⟨by decide +kernel, by decide +kernel⟩, List.mem_of_getElem? (i := 804) (by decide +kernel), List.mem_of_getElem? (i := 1018) (by decide +kernel), List.mem_of_getElem? (i := 1019) (by decide +kernel)⟩
theorem lw_p43 : lw_okq (⟨"MeetingOrdersModel", "holds", "(I)V"⟩, 15) := ⟨⟨by decide +kernel, by decide +kernel⟩, List.mem_of_getElem? (i := 804) (by decide +kernel), List.mem_of_getElem? (i := 1022) (by decide +kernel), List.mem_of_getElem? (i := 1023) (by decide +kernel)⟩
theorem lw_p44 : lw_okq (⟨"MeetingOrdersModel", "misses", "(I)V"⟩, 15) := ⟨⟨by decide +kernel, by decide +kernel⟩, List.mem_of_getElem? (i := 804) (by decide +kernel), List.mem_of_getElem? (i := 1026) (by decide +kernel), List.mem_of_getElem? (i := 1027) (by decide +kernel)⟩
theorem lw_p45 : lw_okq (⟨"MeetingOrdersModel", "ends", "()I"⟩, 15) := ⟨⟨by decide +kernel, by decide +kernel⟩, List.mem_of_getElem? (i := 804) (by decide +kernel), List.mem_of_getElem? (i := 1034) (by decide +kernel), List.mem_of_getElem? (i := 1035) (by decide +kernel)⟩
theorem lw_p46 : lw_okq (⟨"MeetingOrdersModel", "orderValue", "(II)I"⟩, 15) := ⟨⟨by decide +kernel, by decide +kernel⟩, List.mem_of_getElem? (i := 804) (by decide +kernel), List.mem_of_getElem? (i := 1043) (by decide +kernel), List.mem_of_getElem? (i := 1044) (by decide +kernel)⟩
theorem lw_p47 : lw_okq (⟨"MeetingOrdersModel", "plannedOf", "(I)I"⟩, 15) := ⟨⟨by decide +kernel, by decide +kernel⟩, List.mem_of_getElem? (i := 804) (by decide +kernel), List.mem_of_getElem? (i := 1047) (by decide +kernel), List.mem_of_getElem? (i := 1048) (by decide +kernel)⟩
def lw_privs_3 : List (MethodName × Nat) := [(⟨"MeetingOrdersModel", "lays", "(IIIII)V"⟩, 15), (⟨"MeetingOrdersModel", "plans", "(I)I"⟩, 15), (⟨"MeetingOrdersModel", "plansOne", "(I)Z"⟩, 15), (⟨"MeetingOrdersModel", "owes", "(II)I"⟩, 15), (⟨"MeetingOrdersModel", "slotFor", "(II)I"⟩, 15), (⟨"MeetingOrdersModel", "venueFor", "(II)I"⟩, 15), (⟨"MeetingOrdersModel", "escortFor", "(I)I"⟩, 15), (⟨"MeetingOrdersModel", "placeOf", "(I)I"⟩, 15), (⟨"MeetingOrdersModel", "takeOut", "(I)V"⟩, 15), (⟨"MeetingOrdersModel", "mayTell", "(I)Z"⟩, 15), (⟨"MeetingOrdersModel", "tells", "(IZ)V"⟩, 15), (⟨"MeetingOrdersModel", "holds", "(I)V"⟩, 15), (⟨"MeetingOrdersModel", "misses", "(I)V"⟩, 15), (⟨"MeetingOrdersModel", "ends", "()I"⟩, 15), (⟨"MeetingOrdersModel", "orderValue", "(II)I"⟩, 15), (⟨"MeetingOrdersModel", "plannedOf", "(I)I"⟩, 15)]
theorem lw_r3 : ∀ q ∈ lw_privs_3, lw_okq q := List.forall_mem_cons.mpr ⟨lw_p32, List.forall_mem_cons.mpr ⟨lw_p33, List.forall_mem_cons.mpr ⟨lw_p34, List.forall_mem_cons.mpr ⟨lw_p35, List.forall_mem_cons.mpr ⟨lw_p36, List.forall_mem_cons.mpr ⟨lw_p37, List.forall_mem_cons.mpr ⟨lw_p38, List.forall_mem_cons.mpr ⟨lw_p39, List.forall_mem_cons.mpr ⟨lw_p40, List.forall_mem_cons.mpr ⟨lw_p41, List.forall_mem_cons.mpr ⟨lw_p42, List.forall_mem_cons.mpr ⟨lw_p43, List.forall_mem_cons.mpr ⟨lw_p44, List.forall_mem_cons.mpr ⟨lw_p45, List.forall_mem_cons.mpr ⟨lw_p46, List.forall_mem_cons.mpr ⟨lw_p47, fun _ h => absurd h List.not_mem_nil⟩⟩⟩⟩⟩⟩⟩⟩⟩⟩⟩⟩⟩⟩⟩⟩
theorem lw_p48 : lw_okq (⟨"MeetingOrdersModel", "hoursOf", "(I)I"⟩, 15) := ⟨⟨by decide +kernel, by decide +kernel⟩, List.mem_of_getElem? (i := 804) (by decide +kernel), List.mem_of_getElem? (i := 1051) (by decide +kernel), List.mem_of_getElem? (i := 1052) (by decide +kernel)⟩
theorem lw_p49 : lw_okq (⟨"MeetingOrdersModel", "escortValue", "(II)I"⟩, 15) := ⟨⟨by decide +kernel, by decide +kernel⟩, List.mem_of_getElem? (i := 804) (by decide +kernel), List.mem_of_getElem? (i := 1073) (by decide +kernel), List.mem_of_getElem? (i := 1074) (by decide +kernel)⟩
theorem lw_p50 : lw_okq (⟨"MeetingOrdersModel", "manyNow", "(I)I"⟩, 15) := ⟨⟨by decide +kernel, by decide +kernel⟩, List.mem_of_getElem? (i := 804) (by decide +kernel), List.mem_of_getElem? (i := 1077) (by decide +kernel), List.mem_of_getElem? (i := 1078) (by decide +kernel)⟩
theorem lw_p51 : lw_okq (⟨"MeetingOrdersModel", "numberOf", "(I)I"⟩, 15) := ⟨⟨by decide +kernel, by decide +kernel⟩, List.mem_of_getElem? (i := 804) (by decide +kernel), List.mem_of_getElem? (i := 1090) (by decide +kernel), List.mem_of_getElem? (i := 1091) (by decide +kernel)⟩
theorem lw_p52 : lw_okq (⟨"MeetingOrdersModel", "owedByAll", "(I)I"⟩, 15) := ⟨⟨by decide +kernel, by decide +kernel⟩, List.mem_of_getElem? (i := 804) (by decide +kernel), List.mem_of_getElem? (i := 1094) (by decide +kernel), List.mem_of_getElem? (i := 1095) (by decide +kernel)⟩
theorem lw_p53 : lw_okq (⟨"MeetingOrdersModel", "layAside", "()V"⟩, 15) := ⟨⟨by decide +kernel, by decide +kernel⟩, List.mem_of_getElem? (i := 804) (by decide +kernel), List.mem_of_getElem? (i := 1110) (by decide +kernel), List.mem_of_getElem? (i := 1111) (by decide +kernel)⟩
theorem lw_p54 : lw_okq (⟨"MeetingOrdersModel", "takeBack", "()V"⟩, 15) := ⟨⟨by decide +kernel, by decide +kernel⟩, List.mem_of_getElem? (i := 804) (by decide +kernel), List.mem_of_getElem? (i := 1114) (by decide +kernel), List.mem_of_getElem? (i := 1115) (by decide +kernel)⟩
theorem lw_p55 : lw_okq (⟨"MeetingOrdersModel", "settled", "()I"⟩, 15) := ⟨⟨by decide +kernel, by decide +kernel⟩, List.mem_of_getElem? (i := 804) (by decide +kernel), List.mem_of_getElem? (i := 1122) (by decide +kernel), List.mem_of_getElem? (i := 1123) (by decide +kernel)⟩
theorem lw_p56 : lw_okq (⟨"MeetingOrdersModel", "holdsAll", "()V"⟩, 15) := ⟨⟨by decide +kernel, by decide +kernel⟩, List.mem_of_getElem? (i := 804) (by decide +kernel), List.mem_of_getElem? (i := 1126) (by decide +kernel), List.mem_of_getElem? (i := 1127) (by decide +kernel)⟩
theorem lw_p57 : lw_okq (⟨"MeetingOrdersModel", "takesOrder", "()Z"⟩, 15) := ⟨⟨by decide +kernel, by decide +kernel⟩, List.mem_of_getElem? (i := 804) (by decide +kernel), List.mem_of_getElem? (i := 1151) (by decide +kernel), List.mem_of_getElem? (i := 1152) (by decide +kernel)⟩
theorem lw_p58 : lw_okq (⟨"MeetingOrdersModel", "here", "()I"⟩, 15) := ⟨⟨by decide +kernel, by decide +kernel⟩, List.mem_of_getElem? (i := 804) (by decide +kernel), List.mem_of_getElem? (i := 1155) (by decide +kernel), List.mem_of_getElem? (i := 1156) (by decide +kernel)⟩
theorem lw_p59 : lw_okq (⟨"MeetingOrdersModel", "takesParts", "()Z"⟩, 15) := ⟨⟨by decide +kernel, by decide +kernel⟩, List.mem_of_getElem? (i := 804) (by decide +kernel), List.mem_of_getElem? (i := 1159) (by decide +kernel), List.mem_of_getElem? (i := 1160) (by decide +kernel)⟩
theorem lw_p60 : lw_okq (⟨"MeetingOrdersModel", "takesDigit", "(I)Z"⟩, 15) := ⟨⟨by decide +kernel, by decide +kernel⟩, List.mem_of_getElem? (i := 804) (by decide +kernel), List.mem_of_getElem? (i := 1163) (by decide +kernel), List.mem_of_getElem? (i := 1164) (by decide +kernel)⟩
theorem lw_p61 : lw_okq (⟨"MeetingOrdersModel", "takesNumber", "(II)Z"⟩, 15) := ⟨⟨by decide +kernel, by decide +kernel⟩, List.mem_of_getElem? (i := 804) (by decide +kernel), List.mem_of_getElem? (i := 1169) (by decide +kernel), List.mem_of_getElem? (i := 1170) (by decide +kernel)⟩
theorem lw_p62 : lw_okq (⟨"MeetingOrdersModel", "takesByte", "(I)Z"⟩, 15) := ⟨⟨by decide +kernel, by decide +kernel⟩, List.mem_of_getElem? (i := 804) (by decide +kernel), List.mem_of_getElem? (i := 1174) (by decide +kernel), List.mem_of_getElem? (i := 1175) (by decide +kernel)⟩
theorem lw_p63 : lw_okq (⟨"MeetingOrdersModel", "does", "()Z"⟩, 15) := ⟨⟨by decide +kernel, by decide +kernel⟩, List.mem_of_getElem? (i := 804) (by decide +kernel), List.mem_of_getElem? (i := 1178) (by decide +kernel), List.mem_of_getElem? (i := 1179) (by decide +kernel)⟩
def lw_privs_4 : List (MethodName × Nat) := [(⟨"MeetingOrdersModel", "hoursOf", "(I)I"⟩, 15), (⟨"MeetingOrdersModel", "escortValue", "(II)I"⟩, 15), (⟨"MeetingOrdersModel", "manyNow", "(I)I"⟩, 15), (⟨"MeetingOrdersModel", "numberOf", "(I)I"⟩, 15), (⟨"MeetingOrdersModel", "owedByAll", "(I)I"⟩, 15), (⟨"MeetingOrdersModel", "layAside", "()V"⟩, 15), (⟨"MeetingOrdersModel", "takeBack", "()V"⟩, 15), (⟨"MeetingOrdersModel", "settled", "()I"⟩, 15), (⟨"MeetingOrdersModel", "holdsAll", "()V"⟩, 15), (⟨"MeetingOrdersModel", "takesOrder", "()Z"⟩, 15), (⟨"MeetingOrdersModel", "here", "()I"⟩, 15), (⟨"MeetingOrdersModel", "takesParts", "()Z"⟩, 15), (⟨"MeetingOrdersModel", "takesDigit", "(I)Z"⟩, 15), (⟨"MeetingOrdersModel", "takesNumber", "(II)Z"⟩, 15), (⟨"MeetingOrdersModel", "takesByte", "(I)Z"⟩, 15), (⟨"MeetingOrdersModel", "does", "()Z"⟩, 15)]
theorem lw_r4 : ∀ q ∈ lw_privs_4, lw_okq q := List.forall_mem_cons.mpr ⟨lw_p48, List.forall_mem_cons.mpr ⟨lw_p49, List.forall_mem_cons.mpr ⟨lw_p50, List.forall_mem_cons.mpr ⟨lw_p51, List.forall_mem_cons.mpr ⟨lw_p52, List.forall_mem_cons.mpr ⟨lw_p53, List.forall_mem_cons.mpr ⟨lw_p54, List.forall_mem_cons.mpr ⟨lw_p55, List.forall_mem_cons.mpr ⟨lw_p56, List.forall_mem_cons.mpr ⟨lw_p57, List.forall_mem_cons.mpr ⟨lw_p58, List.forall_mem_cons.mpr ⟨lw_p59, List.forall_mem_cons.mpr ⟨lw_p60, List.forall_mem_cons.mpr ⟨lw_p61, List.forall_mem_cons.mpr ⟨lw_p62, List.forall_mem_cons.mpr ⟨lw_p63, fun _ h => absurd h List.not_mem_nil⟩⟩⟩⟩⟩⟩⟩⟩⟩⟩⟩⟩⟩⟩⟩⟩
theorem lw_p64 : lw_okq (⟨"MeetingOrdersModel", "changesOrder", "()Z"⟩, 15) := ⟨⟨by decide +kernel, by decide +kernel⟩, List.mem_of_getElem? (i := 804) (by decide +kernel), List.mem_of_getElem? (i := 1182) (by decide +kernel), List.mem_of_getElem? (i := 1183) (by decide +kernel)⟩
theorem lw_p65 : lw_okq (⟨"MeetingOrdersModel", "adds", "(I)V"⟩, 15) := ⟨⟨by decide +kernel, by decide +kernel⟩, List.mem_of_getElem? (i := 804) (by decide +kernel), List.mem_of_getElem? (i := 1195) (by decide +kernel), List.mem_of_getElem? (i := 1196) (by decide +kernel)⟩
theorem lw_p66 : lw_okq (⟨"MeetingOrdersModel", "addsOrder", "(I)V"⟩, 15) := ⟨⟨by decide +kernel, by decide +kernel⟩, List.mem_of_getElem? (i := 804) (by decide +kernel), List.mem_of_getElem? (i := 1200) (by decide +kernel), List.mem_of_getElem? (i := 1201) (by decide +kernel)⟩
def lw_privs_5 : List (MethodName × Nat) := [(⟨"MeetingOrdersModel", "changesOrder", "()Z"⟩, 15), (⟨"MeetingOrdersModel", "adds", "(I)V"⟩, 15), (⟨"MeetingOrdersModel", "addsOrder", "(I)V"⟩, 15)]
theorem lw_r5 : ∀ q ∈ lw_privs_5, lw_okq q := List.forall_mem_cons.mpr ⟨lw_p64, List.forall_mem_cons.mpr ⟨lw_p65, List.forall_mem_cons.mpr ⟨lw_p66, fun _ h => absurd h List.not_mem_nil⟩⟩⟩
def lw_privs : List (MethodName × Nat) := lw_privs_1 ++ (lw_privs_2 ++ (lw_privs_3 ++ (lw_privs_4 ++ (lw_privs_5))))
def lw_tbl : List Cond := k2_sels lw_privs ++ tables_1
theorem lw_privs_ok : ∀ q ∈ lw_privs, lw_okq q := by
  show ∀ q ∈ lw_privs_1 ++ (lw_privs_2 ++ (lw_privs_3 ++ (lw_privs_4 ++ (lw_privs_5)))), lw_okq q
  exact List.forall_mem_append.mpr ⟨lw_r1, List.forall_mem_append.mpr ⟨lw_r2, List.forall_mem_append.mpr ⟨lw_r3, List.forall_mem_append.mpr ⟨lw_r4, lw_r5⟩⟩⟩⟩
/-- the streams that the claim lets the run draw from -/
abbrev lw_cs : List Choice := [Jvm.Choice.named "NaN.bits"]
theorem lw_bits : nanBits ∈ lw_cs := by first | decide | exact List.mem_cons_self | simp [lw_cs, nanBits]
-- ===== end of PART A; then your names; then what follows =====
/-! ===== BEGIN words of one list among another's, by their places ===== -/
theorem goodIn_r {big : List Cond} (ws : List Cond) (ps : List Nat) (hp : ws = ps.filterMap (fun i => big[i]?)) (h : ws.all goodWord = true) : GoodIn big ws := by
  intro w hw
  have h1 := List.all_eq_true.mp h w hw
  rw [hp] at hw
  obtain ⟨i, -, hi⟩ := List.mem_filterMap.mp hw
  have hm : w ∈ big := by first | exact List.mem_of_getElem? hi | exact List.getElem?_mem hi
  exact ⟨hm, good_of_word h1⟩
theorem goodIn_app {big a b : List Cond} (ha : GoodIn big a) (hb : GoodIn big b) : GoodIn big (a ++ b) := fun w h => (List.mem_append.mp h).elim (ha w) (hb w)
theorem goodIn_ca {big a b : List Cond} {c : Cond} (ha : GoodIn big (c :: a)) (hb : GoodIn big b) : GoodIn big (c :: (a ++ b)) := fun w h => (List.mem_cons.mp h).elim (fun e => ha w (List.mem_cons.mpr (Or.inl e))) (fun h => (List.mem_append.mp h).elim (fun h => ha w (List.mem_cons.mpr (Or.inr h))) (hb w))
theorem goodIn_sub {big ws : List Cond} (hm : ∀ w ∈ ws, w ∈ big) (h : ws.all goodWord = true) : GoodIn big ws := fun w hw => ⟨hm w hw, good_of_word (List.all_eq_true.mp h w hw)⟩
/-! ===== END ===== -/

/-! ===== BEGIN exceptions that leave a method, and their catching by the caller (launches without stack traces) ===== -/
section VXA
/-! The laws vx_back, vx_callV, vx_callS, vx_callSW, vx_throw0, vx_throwS follow proofs of the library, with one case more: JvmDerived/Free/Laws.lean (Back.of_free), Shelf42/LK1.lean (callV, callS), Shelf/KitTraced.lean (throwNew0V, throwNewS). -/
/-- where a method has thrown q: the class by its name, the cell, what was written, the world -/
def vx_T (XC : String → State → State → Prop) (st : State) (q : Addr) (t : State) (mc ms : Nat) (free : Addr → Prop) : Prop :=
  ∃ (E : String) (ce : Cell) (L : List Loc), XC E st t ∧ t.heap[q]? = some ce ∧ ce.vm = .none ∧ st.vm.findClass E = some ce.cls ∧ st.WarmedH t.vm ∧ st.sameButNew ({ t with vm := st.vm } : State) L mc ms ∧ ∀ z ∈ L, free z.base
def vx_Q (Qc : Array Value → State → Outcome → State → Prop) (XC : String → State → State → Prop) (mc ms : Nat) (free : Addr → Prop) : Array Value → State → Outcome → State → Prop := fun a st o t =>
  (Qc a st o t ∧ ∃ L, FrameEnd st o t L mc ms ∧ ∀ q ∈ L, free q.base) ∨ ∃ q, o = .threw q ∧ vx_T XC st q t mc ms free
/-- a callee that returns or throws -/
def vx_Met (l : Launch) (y : MethodName) (ws : List Cond) (rm : Room) (Pc : Array Value → State → Prop) (Qc : Array Value → State → Outcome → State → Prop) (XC : String → State → State → Prop) (mc ms : Nat) (free : Addr → Prop) : Prop :=
  MetFree l y (headSpec ws rm) Pc (fun _ _ _ _ _ => True) (vx_Q Qc XC mc ms free)
def vx_Post (XC : String → State → State → Prop) (mc ms : Nat) (free : Addr → Prop) : Pt → Array Value → Addr → Pt → Prop := fun A a q B =>
  ∃ (g : JFrame) (mk : MethodId) (t : State) (L : List Loc) (E : String) (ce : Cell), B.U.heap = t.heap ∧ B.U.vm = t.vm ∧ XC E (A.U.calling g mk a) t ∧ t.heap[q]? = some ce ∧ ce.vm = .none ∧ A.U.vm.findClass E = some ce.cls ∧ B.locs = A.locs ++ L ∧ (∀ z ∈ L, free z.base) ∧ B.cells = A.cells + mc ∧ B.slots = A.slots + ms
def vx_Back (l : Launch) (R : Room) (p : Program) (e : Env) (below : List Frame) (s : State) (sargs : Array Value) (y : MethodName) (len W9 : Nat)
    (Pre : Pt → Array Value → Prop) (Post : Pt → Array Value → Option Value → Pt → Prop) (PostX : Pt → Array Value → Addr → Pt → Prop) : Prop :=
  ∀ (m : MethodId) (meth : Method) (c : Code) (A : Pt) (g : JFrame) (ig : Instr) (mk : MethodId) (a : Array Value),
    Stand p l e R s m sargs below meth c A.U A.locs A.cells A.slots → g.method = m → g.locals.size = c.maxLocals → decode c.code g.pc = .ok (ig, len) →
    2 * g.monitorRoom + (g.stack.map fun v => v.category).sum ≤ W9 → A.U.methodNamed? y = some mk → Pre A a →
    (∃ (v : Option Value) (B : Pt), Stand p l e R s m sargs below meth c B.U B.locs B.cells B.slots ∧ Post A a v B ∧
      Steps p.tables e below (doInvoke e (A.U.setTop g) [] mk a).1 (B.U.setTop { g with pc := g.pc + len, stack := v.toList ++ g.stack })) ∨
    (∃ (q : Addr) (B : Pt), Stand p l e R s m sargs below meth c B.U B.locs B.cells B.slots ∧ PostX A a q B ∧
      Steps p.tables e below (doInvoke e (A.U.setTop g) [] mk a).1 ((B.U.setTop g).pushFrame (.throwing q)))
section Payer
variable {l : Launch} {R : Room} {p : Program} {e : Env} {below : List Frame} {s : State} {sargs : Array Value} {y : MethodName} {len W9 : Nat}
theorem vx_back {ws : List Cond} {rm : Room} {Pc : Array Value → State → Prop} {Qc : Array Value → State → Outcome → State → Prop} {XC : String → State → State → Prop} {mc ms : Nat} {free : Addr → Prop} {bytes : ByteArray} {maxL : Nat} {ret : Option FieldType}
    (hM : vx_Met l y ws rm Pc Qc XC mc ms free) (hblind : FrameBlind Pc) (hrc : rm.cells = mc) (hrs : rm.slots = ms)
    (hframes : rm.frames + 1 ≤ R.frames) (hlocals : W9 + (maxL + 11) + rm.locals ≤ R.locals)
    (hws : ∀ w ∈ ws, ∀ a' U, s.WarmedH U.vm → w.before a' U = true) (hcode : Cond.code y bytes maxL ret ∈ ws) (hinit : ∀ a' U, s.WarmedH U.vm → (Cond.initialized y.cls).before a' U = true) :
    vx_Back l R p e below s sargs y len W9 (PreOf R mc ms Pc) (PostOf Qc mc ms free) (vx_Post XC mc ms free) := by
  intro m meth c A g ig mk a X hg hsize hdg hW hn hp
  have h1 : (headSpec ws rm).pre.before a A.U = true := atoms_intro fun w hw => hws w hw _ _ X.warmed
  have h2 : (Cond.code y bytes maxL ret).before a A.U = true := hws _ hcode _ _ X.warmed
  have h3 : (Cond.initialized y.cls).before a A.U = true := hinit _ _ X.warmed
  have h4 : A.cells + (headSpec ws rm).room.cells ≤ R.cells := by rw [show (headSpec ws rm).room.cells = mc from hrc]; exact hp.1
  have h5 : A.slots + (headSpec ws rm).room.slots ≤ R.slots := by rw [show (headSpec ws rm).room.slots = ms from hrs]; exact hp.2.1
  have hPc : Pc a (A.U.calling g mk a) := hblind _ _ _ _ hp.2.2
  obtain ⟨U, Ls, c0, s0⟩ := A
  dsimp only [Pt.U, Pt.locs, Pt.cells, Pt.slots] at h1 h2 h3 h4 h5 X hn hPc ⊢
  obtain ⟨methY, cY, hmY, hcY, -, hlY, -, -, -, -⟩ := Cond.code_spec hn h2
  obtain ⟨kY, hkY, -⟩ := className_of_methodNamed hn
  have hinitY : kY.init = .initialized := Cond.initialized_spec (findClass_of_methodNamed hn) hkY h3
  have h : At U g.method c below := by rw [hg]; exact X.here
  have hlocals9 : W9 + (maxL + 11) + (headSpec ws rm).room.locals ≤ R.locals := hlocals
  have happ : (headSpec ws rm).appliesLoose y e.platform (U.calling g mk a) = true :=
    Spec.appliesLoose_calling (g := g) h hdg hn hkY hinitY
      (X.room_calling (g := g) (R' := (headSpec ws rm).room) hsize hmY hcY hframes (by rw [hlY]; omega) h4 h5) h1
  obtain ⟨mid, hmid⟩ := h.above
  have hfr : (U.setTop g).frames = (.java g :: mid) ++ below := by rw [State.frames_setTop' g h.top, hmid]; rfl
  obtain ⟨o, s₂, hsteps, -, hend, hq⟩ := Steps.callFree hM p X.admits X.cas X.clock (acts := []) hfr happ hPc trivial
  have hq' : vx_Q Qc XC mc ms free a (U.calling g mk a) o s₂ := hq
  rw [State.frames_setTop' g h.top] at hend
  obtain ⟨g₀, hg0⟩ := Option.isSome_iff_exists.mp h.top
  obtain ⟨r, hr⟩ := State.topJava?_eq_some.mp hg0
  have hr' : (({ U with heap := s₂.heap, slotsUsed := s₂.slotsUsed } : State).setVm s₂.vm).frames = .java g₀ :: r := hr
  rcases hq' with ⟨hqc, L, hfe, hL⟩ | ⟨q, rfl, E, ce, L, hx, hce, hcv, hcl, hW₂, hsm, hL⟩
  · obtain ⟨⟨v, rfl⟩, hW₂, e2, q2, q3, q4, q5, q6⟩ := id hfe
    have e3 : s₂ = ({ (U.calling g mk a).setFrames s₂.frames with heap := s₂.heap, slotsUsed := s₂.slotsUsed } : State).setVm s₂.vm := by
      have : s₂ = ({ s₂ with vm := (U.calling g mk a).vm } : State).setVm s₂.vm := rfl
      rw [e2] at this
      exact this
    obtain ⟨c₂, i₂, len₂, hc₂, hd₂, hf₂⟩ := hend
    have hW' : U.WarmedH s₂.vm := hW₂
    have hcc : c₂ = c := by
      have h1 : s₂.code? g.method = U.code? g.method := by
        rw [State.code?_eq, State.code?_eq, hW'.alike.method?]
      exact Option.some.inj (hc₂.symm.trans (h1.trans h.code))
    subst hcc
    have hlen : len₂ = len := by rw [hdg] at hd₂; cases hd₂; rfl
    subst hlen
    have hs₂ : s₂ = (({ U with heap := s₂.heap, slotsUsed := s₂.slotsUsed } : State).setVm s₂.vm).setTop { g with pc := g.pc + len₂, stack := v.toList ++ g.stack } := by
      refine e3.trans ?_
      rw [hf₂, State.calling_eq h.top, State.setFrames_setFrames, State.setTop_of_frames _ hr', hr]
      rfl
    have hsame : U.sameButNew ({ U with heap := s₂.heap, slotsUsed := s₂.slotsUsed } : State) L mc ms := by
      refine ⟨?_, q2, q3, q4, q5, q6⟩
      obtain ⟨t, ht, -⟩ := State.frames_cons hr
      show ({ U with heap := s₂.heap, slotsUsed := s₂.slotsUsed } : State) = { U.setFrames U.frames with heap := s₂.heap, slotsUsed := s₂.slotsUsed }
      rw [State.setFrames_self ht]
    subst hg
    refine Or.inl ⟨v, ⟨(({ U with heap := s₂.heap, slotsUsed := s₂.slotsUsed } : State).setVm s₂.vm), Ls ++ L, c0 + mc, s0 + ms⟩,
      ⟨X.admits, X.cas, X.clock, X.frames, X.room, X.hears, X.method, X.code, (X.here.setHeapUsed s₂.heap s₂.slotsUsed).setVm hW'.alike, X.tail, State.WarmedH.trans X.warmed hW', X.limits, X.bytes, X.same.trans (hsame.setVm s.vm)⟩,
      ⟨g, mk, s₂, L, rfl, rfl, hqc, rfl, hL, rfl, rfl⟩, ?_⟩
    show Steps p.tables e below _ ((({ U with heap := s₂.heap, slotsUsed := s₂.slotsUsed } : State).setVm s₂.vm).setTop { g with pc := g.pc + len₂, stack := v.toList ++ g.stack })
    rw [← hs₂]
    exact hsteps
  · obtain ⟨e2, q2, q3, q4, q5, q6⟩ := id hsm
    have e3 : s₂ = ({ (U.calling g mk a).setFrames s₂.frames with heap := s₂.heap, slotsUsed := s₂.slotsUsed } : State).setVm s₂.vm := by
      have : s₂ = ({ s₂ with vm := (U.calling g mk a).vm } : State).setVm s₂.vm := rfl
      rw [e2] at this
      exact this
    have hf₂ : s₂.frames = .throwing q :: .java g :: U.frames.tail := hend
    have hW' : U.WarmedH s₂.vm := hW₂
    have hs₂ : s₂ = ((({ U with heap := s₂.heap, slotsUsed := s₂.slotsUsed } : State).setVm s₂.vm).setTop g).pushFrame (.throwing q) := by
      refine e3.trans ?_
      rw [hf₂, State.calling_eq h.top, State.setFrames_setFrames, State.pushFrame, State.frames_setTop _ hr', State.setTop_of_frames _ hr', State.setFrames_setFrames, hr]
      rfl
    have hsame : U.sameButNew ({ U with heap := s₂.heap, slotsUsed := s₂.slotsUsed } : State) L mc ms := by
      refine ⟨?_, q2, q3, q4, q5, q6⟩
      obtain ⟨t, ht, -⟩ := State.frames_cons hr
      show ({ U with heap := s₂.heap, slotsUsed := s₂.slotsUsed } : State) = { U.setFrames U.frames with heap := s₂.heap, slotsUsed := s₂.slotsUsed }
      rw [State.setFrames_self ht]
    subst hg
    refine Or.inr ⟨q, ⟨(({ U with heap := s₂.heap, slotsUsed := s₂.slotsUsed } : State).setVm s₂.vm), Ls ++ L, c0 + mc, s0 + ms⟩,
      ⟨X.admits, X.cas, X.clock, X.frames, X.room, X.hears, X.method, X.code, (X.here.setHeapUsed s₂.heap s₂.slotsUsed).setVm hW'.alike, X.tail, State.WarmedH.trans X.warmed hW', X.limits, X.bytes, X.same.trans (hsame.setVm s.vm)⟩,
      ⟨g, mk, s₂, L, E, ce, rfl, rfl, hx, hce, hcv, hcl, rfl, hL, rfl, rfl⟩, ?_⟩
    show Steps p.tables e below _ (((({ U with heap := s₂.heap, slotsUsed := s₂.slotsUsed } : State).setVm s₂.vm).setTop g).pushFrame (.throwing q))
    rw [← hs₂]
    exact hsteps
end Payer
section Calls
variable {p : Program} {l : Launch} {e : Env} {R : Room} {s : State} {m : MethodId} {args : Array Value} {below : List Frame} {meth : Method} {c : Code} {T : State} {locs : List Loc} {cells slots : Nat}
theorem vx_callV (X : Stand p l e R s m args below meth c T locs cells slots) (hexec : p.tables.exec = Jvm.exec) {own C : String} {index : Nat} {y : MethodName} {bytes : ByteArray} {maxL : Nat} {ret : Option FieldType}
    (hown : s.vm.findClass own = some m.cls) (hlink : (Cond.methodLink own index y).before args s = true) (hinst : (Cond.instanceMethod y).before args s = true) (hsel : (Cond.selects C y y).before args s = true)
    (hcode : (Cond.code y bytes maxL ret).before args s = true) (hy : y.cls ≠ "java/lang/invoke/MethodHandle" ∧ y.cls ≠ "java/lang/invoke/VarHandle")
    {W9 : Nat} {Pre : Pt → Array Value → Prop} {Post : Pt → Array Value → Option Value → Pt → Prop} {PostX : Pt → Array Value → Addr → Pt → Prop} (hK : vx_Back l R p e below s args y 3 W9 Pre Post PostX)
    {b : Addr} {cellB : Cell} (hcell : T.heap[b]? = some cellB) (hobj : cellB.vm.isStatics = false) (hcls : s.vm.findClass C = some cellB.cls)
    {g : JFrame} (hg : g.method = m) (hsize : g.locals.size = c.maxLocals) {argsL rest : List Value} (hlen : ∀ sig, parseMethodDescriptor y.desc = some sig → argsL.length = sig.parameters.length)
    (hstack : g.stack = argsL.reverse ++ .ref b :: rest) (hW : 2 * g.monitorRoom + (rest.map fun v => v.category).sum ≤ W9) (hdg : decode c.code g.pc = .ok (.invokevirtual index, 3))
    (hpre : ∀ vm₁, s.WarmedH vm₁ → Pre ⟨T.setVm vm₁, locs, cells, slots⟩ (Value.ref b :: argsL).toArray) :
    (∃ (v : Option Value) (vm₁ : Vm) (B : Pt), s.WarmedH vm₁ ∧ Stand p l e R s m args below meth c B.U B.locs B.cells B.slots ∧ Post ⟨T.setVm vm₁, locs, cells, slots⟩ (Value.ref b :: argsL).toArray v B ∧
      ∀ target, Steps p.tables e below (B.U.setTop { g with pc := g.pc + 3, stack := v.toList ++ rest }) target → Steps p.tables e below (T.setTop g) target) ∨
    (∃ (q : Addr) (vm₁ : Vm) (B : Pt), s.WarmedH vm₁ ∧ Stand p l e R s m args below meth c B.U B.locs B.cells B.slots ∧ PostX ⟨T.setVm vm₁, locs, cells, slots⟩ (Value.ref b :: argsL).toArray q B ∧
      Steps p.tables e below (T.setTop g) ((B.U.setTop { g with stack := rest }).pushFrame (.throwing q))) := by
  obtain ⟨mk, methM, hnamed, hmethM, hstM, habM⟩ := Cond.instanceMethod_spec hinst
  obtain ⟨methM', cM, hmethM', -, -, -, -, -, -, hsigM⟩ := Cond.code_spec hnamed hcode
  cases hmethM.symm.trans hmethM'
  obtain ⟨c2, r2, m2, q1, q2, q3, q4, kP, hkP, hkPi⟩ := Cond.selects_spec hsel
  cases hcls.symm.trans q1
  cases (State.methodFound?_of_named hnamed hy).symm.trans q2
  cases hnamed.symm.trans q3
  have hselP : selectMethod e.platform s.vm cellB.cls mk = .method mk := by rw [Launch.admits_selectMethod X.admits]; exact q4
  obtain ⟨vm₁, X₁, hstep₁⟩ := X.invokevirtual hexec hown hlink hnamed hmethM hstM hkP hkPi hy (a := b) (cell := cellB) hcell
    (fun z h => by rw [h] at hobj; cases hobj) hselP hmethM habM hkP hkPi (g := g) hg (argsL := argsL) (rest := rest) (hlen _ hsigM) hstack hdg
  rcases hK m meth c ⟨T.setVm vm₁, locs, cells, slots⟩ { g with stack := rest } (.invokevirtual index) mk (Value.ref b :: argsL).toArray X₁ hg hsize hdg hW (X₁.named hnamed) (hpre vm₁ X₁.warmed) with ⟨v, B, X', hpost, hsteps⟩ | ⟨q, B, X', hpost, hsteps⟩
  · exact Or.inl ⟨v, vm₁, B, X₁.warmed, X', hpost, fun target h => hstep₁ _ fun acts => by rw [doInvoke_state]; exact hsteps.trans h⟩
  · exact Or.inr ⟨q, vm₁, B, X₁.warmed, X', hpost, hstep₁ _ fun acts => by rw [doInvoke_state]; exact hsteps⟩
theorem vx_callS (X : Stand p l e R s m args below meth c T locs cells slots) (hexec : p.tables.exec = Jvm.exec) {own : String} {index : Nat} {y : MethodName} {bytes : ByteArray} {maxL : Nat} {ret : Option FieldType}
    (hown : s.vm.findClass own = some m.cls) (hlink : (Cond.methodLink own index y).before args s = true) (hstat : (Cond.static y).before args s = true) (hinit : (Cond.initialized y.cls).before args s = true)
    (hcode : (Cond.code y bytes maxL ret).before args s = true) (hy : y.cls ≠ "java/lang/invoke/MethodHandle" ∧ y.cls ≠ "java/lang/invoke/VarHandle")
    {W9 : Nat} {Pre : Pt → Array Value → Prop} {Post : Pt → Array Value → Option Value → Pt → Prop} {PostX : Pt → Array Value → Addr → Pt → Prop} (hK : vx_Back l R p e below s args y 3 W9 Pre Post PostX)
    {g : JFrame} (hg : g.method = m) (hsize : g.locals.size = c.maxLocals) {argsL rest : List Value} (hlen : ∀ sig, parseMethodDescriptor y.desc = some sig → argsL.length = sig.parameters.length)
    (hstack : g.stack = argsL.reverse ++ rest) (hW : 2 * g.monitorRoom + (rest.map fun v => v.category).sum ≤ W9) (hdg : decode c.code g.pc = .ok (.invokestatic index, 3))
    (hpre : ∀ vm₁, s.WarmedH vm₁ → Pre ⟨T.setVm vm₁, locs, cells, slots⟩ argsL.toArray) :
    (∃ (v : Option Value) (vm₁ : Vm) (B : Pt), s.WarmedH vm₁ ∧ Stand p l e R s m args below meth c B.U B.locs B.cells B.slots ∧ Post ⟨T.setVm vm₁, locs, cells, slots⟩ argsL.toArray v B ∧
      ∀ target, Steps p.tables e below (B.U.setTop { g with pc := g.pc + 3, stack := v.toList ++ rest }) target → Steps p.tables e below (T.setTop g) target) ∨
    (∃ (q : Addr) (vm₁ : Vm) (B : Pt), s.WarmedH vm₁ ∧ Stand p l e R s m args below meth c B.U B.locs B.cells B.slots ∧ PostX ⟨T.setVm vm₁, locs, cells, slots⟩ argsL.toArray q B ∧
      Steps p.tables e below (T.setTop g) ((B.U.setTop { g with stack := rest }).pushFrame (.throwing q))) := by
  obtain ⟨mk, hnamed⟩ := Cond.code_named hcode
  obtain ⟨methM, cM, hmethM, -, -, -, -, -, -, hsigM⟩ := Cond.code_spec hnamed hcode
  have hstatic : methM.isStatic = true := Cond.static_spec hnamed hmethM hstat
  obtain ⟨kP, hkP, -⟩ := className_of_methodNamed hnamed
  have hinitP : kP.init = .initialized := Cond.initialized_spec (findClass_of_methodNamed hnamed) hkP hinit
  obtain ⟨vm₁, X₁, hstep₁⟩ := X.invokestatic hexec hown hlink hnamed hmethM hstatic hkP hinitP hy (g := g) hg (argsL := argsL) (rest := rest) (hlen _ hsigM) hstack hdg
  rcases hK m meth c ⟨T.setVm vm₁, locs, cells, slots⟩ { g with stack := rest } (.invokestatic index) mk argsL.toArray X₁ hg hsize hdg hW (X₁.named hnamed) (hpre vm₁ X₁.warmed) with ⟨v, B, X', hpost, hsteps⟩ | ⟨q, B, X', hpost, hsteps⟩
  · exact Or.inl ⟨v, vm₁, B, X₁.warmed, X', hpost, fun target h => hstep₁ _ fun acts => by rw [doInvoke_state]; exact hsteps.trans h⟩
  · exact Or.inr ⟨q, vm₁, B, X₁.warmed, X', hpost, hstep₁ _ fun acts => by rw [doInvoke_state]; exact hsteps⟩
end Calls
theorem vx_cls {s : State} {T : State} {vm₁ : Vm} {E : String} {k : ClassId} (hW : s.WarmedH vm₁) (h : (T.setVm vm₁).vm.findClass E = some k) : s.vm.findClass E = some k := by
  have h1 : vm₁.findClass E = some k := h
  rw [hW.alike.findClass] at h1
  exact h1
/-- the method's frame g, with q thrown over it -/
def vx_W (p : Program) (l : Launch) (e : Env) (R : Room) (s : State) (m : MethodId) (args : Array Value) (below : List Frame) (meth : Method) (c : Code) (H : Heap) (locs : List Loc) (cells slots : Nat) (Q : State → Prop) (g : JFrame) (q : Addr) : Prop :=
  ∀ T : State, T.heap = H → Stand p l e R s m args below meth c T locs cells slots → ∃ t, Steps p.tables e below ((T.setTop g).pushFrame (.throwing q)) t ∧ Q t
def vx_Run (p : Program) (l : Launch) (e : Env) (R : Room) (s : State) (m : MethodId) (args : Array Value) (below : List Frame) (meth : Method) (c : Code) (H : Heap) (locs : List Loc) (cells slots mc ms : Nat) (g : JFrame) (rest : List Value) (Qa : State → Outcome → State → Prop) (XC : String → State → State → Prop) (free : Addr → Prop) : Prop :=
  ∀ T : State, T.heap = H → Stand p l e R s m args below meth c T locs cells slots →
    (∃ (v : Option Value) (st₀ t T' : State) (L : List Loc), st₀.heap = H ∧ Stand p l e R s m args below meth c T' (locs ++ L) (cells + mc) (slots + ms) ∧ (∀ q ∈ L, free q.base) ∧ T'.heap = t.heap ∧ T'.vm = t.vm ∧ Qa st₀ (.returned v) t ∧
      Goes p e below T g T' { g with pc := g.pc + 3, stack := v.toList ++ rest }) ∨
    (∃ (q : Addr) (st₀ t T' : State) (L : List Loc) (E : String) (ce : Cell), st₀.heap = H ∧ Stand p l e R s m args below meth c T' (locs ++ L) (cells + mc) (slots + ms) ∧ (∀ z ∈ L, free z.base) ∧ T'.heap = t.heap ∧ T'.vm = t.vm ∧ XC E st₀ t ∧ t.heap[q]? = some ce ∧ ce.vm = .none ∧ s.vm.findClass E = some ce.cls ∧
      Steps p.tables e below (T.setTop g) ((T'.setTop { g with stack := rest }).pushFrame (.throwing q)))
def vx_X {S : Type} (px : S → Prop) (B : String → S → State → Prop) (A : Nat → Prop) : String → State → State → Prop := fun E st t => ∃ u : S, px u ∧ B E u t ∧ va_F A st t
section Runs
variable {p : Program} {l : Launch} {e : Env} {R : Room} {s : State} {m : MethodId} {args : Array Value} {below : List Frame} {meth : Method} {c : Code} {H : Heap} {locs : List Loc} {cells slots : Nat}
variable {y : MethodName} {bytes cc : ByteArray} {maxL nL mc ms n index : Nat} {ret : Option FieldType} {ws : List Cond} {rm : Room} {Pc : Array Value → State → Prop} {Qc : Array Value → State → Outcome → State → Prop} {XC : String → State → State → Prop} {free : Addr → Prop} {Ts : List Cond} {own C : String} {b : Addr} {As rest : List Value} {g : JFrame}
theorem vx_callBack (cb : CallB R s args own index y bytes maxL ret ws rm mc ms n) (hM : vx_Met l y ws rm Pc Qc XC mc ms free) (hbl : FrameBlind Pc) : vx_Back l R p e below s args y 3 8 (PreOf R mc ms Pc) (PostOf Qc mc ms free) (vx_Post XC mc ms free) := by
  obtain ⟨hrc, hrs, hfr, hlo, hws, hcw, -, hini, -⟩ := cb
  exact vx_back (bytes := bytes) (maxL := maxL) (ret := ret) hM hbl hrc hrs hfr hlo hws hcw (fun a' U hW => word_at hW (Or.inl (by first | rfl | simp [Cond.onTables, Cond.keeps, Cond.steady])) hini)
theorem vx_runV (S : CallFix p m c cc nL s args Ts own) (hM : vx_Met l y ws rm Pc Qc XC mc ms free) (cw : CallW R s args own C index y bytes maxL ret ws rm mc ms n) (hp : PreV s H C b Pc As)
    (hg : g.method = m) (hn : As.length = n) (hsize : g.locals.size = nL) (hstack : g.stack = As.reverse ++ .ref b :: rest) (hW : 2 * g.monitorRoom + (rest.map fun v => v.category).sum ≤ 8) (hdg : decode cc g.pc = .ok (.invokevirtual index, 3)) (hf : cells + mc ≤ R.cells ∧ slots + ms ≤ R.slots) :
    vx_Run p l e R s m args below meth c H locs cells slots mc ms g rest (Qc (Value.ref b :: As).toArray) XC free := by
  have hK : vx_Back l R p e below s args y 3 8 (PreOf R mc ms Pc) (PostOf Qc mc ms free) (vx_Post XC mc ms free) := vx_callBack cw.1 hM hp.1
  obtain ⟨⟨-, -, -, -, -, -, hcode, -, hy, hlen, hl⟩, hin, hse⟩ := cw
  obtain ⟨hx, hb, hml, ho, -⟩ := S
  obtain ⟨-, ⟨cellB, hcB, hoB, hclB⟩, hPc⟩ := hp
  intro T hT X
  rcases vx_callV X hx (C := C) (bytes := bytes) (maxL := maxL) (ret := ret) ho hl hin hse hcode hy hK (by rw [hT]; exact hcB) hoB hclB hg (hsize.trans hml.symm) (argsL := As) (rest := rest) (fun sig h => hn.trans (hlen sig h)) hstack hW (by rw [hb]; exact hdg)
    (fun vm₁ hW₁ => ⟨hf.1, hf.2, hPc (T.setVm vm₁) hT hW₁⟩) with ⟨v, vm₁, ⟨U', l2, c2, s2⟩, hW₁, X', ⟨g', mk, t, L, e1, e2, hq, h1, hL, h2, h3⟩, st⟩ | ⟨q, vm₁, ⟨U', l2, c2, s2⟩, hW₁, X', ⟨g', mk, t, L, E, ce, e1, e2, hq, hce, hcv, hcl, h1, hL, h2, h3⟩, st⟩
  · dsimp only [Pt.U, Pt.locs, Pt.cells, Pt.slots] at X' e1 e2 h1 h2 h3 st
    subst h1; subst h2; subst h3
    exact Or.inl ⟨v, (T.setVm vm₁).calling g' mk (Value.ref b :: As).toArray, t, U', L, hT, X', hL, e1, e2, hq, st⟩
  · dsimp only [Pt.U, Pt.locs, Pt.cells, Pt.slots] at X' e1 e2 h1 h2 h3 st hcl
    subst h1; subst h2; subst h3
    exact Or.inr ⟨q, (T.setVm vm₁).calling g' mk (Value.ref b :: As).toArray, t, U', L, E, ce, hT, X', hL, e1, e2, hq, hce, hcv, vx_cls hW₁ hcl, st⟩
theorem vx_runS (S : CallFix p m c cc nL s args Ts own) (hM : vx_Met l y ws rm Pc Qc XC mc ms free) (cw : CallB R s args own index y bytes maxL ret ws rm mc ms n ∧ (Cond.static y).before args s = true) (hp : PreS s H Pc As)
    (hg : g.method = m) (hn : As.length = n) (hsize : g.locals.size = nL) (hstack : g.stack = As.reverse ++ rest) (hW : 2 * g.monitorRoom + (rest.map fun v => v.category).sum ≤ 8) (hdg : decode cc g.pc = .ok (.invokestatic index, 3)) (hf : cells + mc ≤ R.cells ∧ slots + ms ≤ R.slots) :
    vx_Run p l e R s m args below meth c H locs cells slots mc ms g rest (Qc As.toArray) XC free := by
  have hK : vx_Back l R p e below s args y 3 8 (PreOf R mc ms Pc) (PostOf Qc mc ms free) (vx_Post XC mc ms free) := vx_callBack cw.1 hM hp.1
  obtain ⟨⟨-, -, -, -, -, -, hcode, hini, hy, hlen, hl⟩, hstt⟩ := cw
  obtain ⟨hx, hb, hml, ho, -⟩ := S
  intro T hT X
  rcases vx_callS X hx (bytes := bytes) (maxL := maxL) (ret := ret) ho hl hstt hini hcode hy hK hg (hsize.trans hml.symm) (argsL := As) (rest := rest) (fun sig h => hn.trans (hlen sig h)) hstack hW (by rw [hb]; exact hdg)
    (fun vm₁ hW₁ => ⟨hf.1, hf.2, hp.2 (T.setVm vm₁) hT hW₁⟩) with ⟨v, vm₁, ⟨U', l2, c2, s2⟩, hW₁, X', ⟨g', mk, t, L, e1, e2, hq, h1, hL, h2, h3⟩, st⟩ | ⟨q, vm₁, ⟨U', l2, c2, s2⟩, hW₁, X', ⟨g', mk, t, L, E, ce, e1, e2, hq, hce, hcv, hcl, h1, hL, h2, h3⟩, st⟩
  · dsimp only [Pt.U, Pt.locs, Pt.cells, Pt.slots] at X' e1 e2 h1 h2 h3 st
    subst h1; subst h2; subst h3
    exact Or.inl ⟨v, (T.setVm vm₁).calling g' mk As.toArray, t, U', L, hT, X', hL, e1, e2, hq, st⟩
  · dsimp only [Pt.U, Pt.locs, Pt.cells, Pt.slots] at X' e1 e2 h1 h2 h3 st hcl
    subst h1; subst h2; subst h3
    exact Or.inr ⟨q, (T.setVm vm₁).calling g' mk As.toArray, t, U', L, E, ce, hT, X', hL, e1, e2, hq, hce, hcv, vx_cls hW₁ hcl, st⟩
end Runs
section Rows
variable {p : Program} {l : Launch} {e : Env} {R : Room} {s : State} {m : MethodId} {args : Array Value} {below : List Frame} {meth : Method} {c : Code} {H : Heap} {locs : List Loc} {cells slots : Nat} {Q : State → Prop}
variable {mc ms : Nat} {free : Addr → Prop} {A0 A1 : Nat → Prop} {H0 : Heap} {a : Array Value} {pc : Nat} {ls : Array Slot} {st0 rest : List Value}
theorem vx_keep {st₀ t T' : State} {L : List Loc} (h0 : st₀.heap = H) (e1 : T'.heap = t.heap) (hS : va_S A0 H0 H locs) (hA : ∀ q, q < H.size → A1 q → A0 q) (hf : ∀ q, free q → A0 q) (hL : ∀ q ∈ L, free q.base) (hF : va_F A1 st₀ t) :
    H.size ≤ T'.heap.size ∧ (∀ q : Nat, q < H.size → ¬ A1 q → T'.heap[q]? = H[q]?) ∧ va_S A0 H0 T'.heap (locs ++ L) := by
  obtain ⟨hz, hk⟩ := hF
  rw [h0] at hz hk
  exact ⟨by rw [e1]; exact hz, fun q h1 h2 => by rw [e1]; exact hk q h1 h2,
    ⟨Nat.le_trans hS.1 (by rw [e1]; exact hz), fun q h1 h2 => by rw [e1, hk q (Nat.lt_of_lt_of_le h1 hS.1) (fun z => h2 (hA q (Nat.lt_of_lt_of_le h1 hS.1) z))]; exact hS.2.1 q h1 h2, fun q hq => by
      rcases List.mem_append.mp hq with h | h
      · exact hS.2.2 q h
      · exact hf _ (hL q h)⟩⟩
theorem vx_calli {S SX : Type} {post : Int32 → S → Prop} {px : SX → Prop} {B : S → State → Prop} {BX : String → SX → State → Prop} {AX : Nat → Prop} (hr : vx_Run p l e R s m args below meth c H locs cells slots mc ms (F0 m pc ls st0) rest (va_Qi post B A1 a) (vx_X px BX AX) free) (hS : va_S A0 H0 H locs) (hA : ∀ q, q < H.size → A1 q → A0 q) (hf : ∀ q, free q → A0 q) (hAX : ∀ q, q < H.size → AX q → A0 q)
    (kx : ∀ (E : String) (ce : Cell) (q9 : Addr) (u : SX) (t : State) (H1 : Heap) (locs1 : List Loc), t.heap = H1 → s.vm.Alike t.vm → px u → BX E u t → H.size ≤ H1.size → (∀ q : Nat, q < H.size → ¬ AX q → H1[q]? = H[q]?) → va_S A0 H0 H1 locs1 → H1[q9]? = some ce → ce.vm = .none → s.vm.findClass E = some ce.cls → vx_W p l e R s m args below meth c H1 locs1 (cells + mc) (slots + ms) Q (F0 m pc ls rest) q9)
    (kk : ∀ (r : Int32) (u : S) (t : State) (H1 : Heap) (locs1 : List Loc), t.heap = H1 → s.vm.Alike t.vm → post r u → B u t → H.size ≤ H1.size → (∀ q : Nat, q < H.size → ¬ A1 q → H1[q]? = H[q]?) → va_S A0 H0 H1 locs1 → W p l e R s m args below meth c H1 locs1 (cells + mc) (slots + ms) Q (F0 m (pc + 3) ls (.int r :: rest))) : W p l e R s m args below meth c H locs cells slots Q (F0 m pc ls st0) := by
  intro T hT X
  rcases hr T hT X with ⟨v, st₀, t, T', L, h0, X', hL, e1, e2, ⟨⟨r, u, hv, hp, hb⟩, hF⟩, st⟩ | ⟨q, st₀, t, T', L, E, ce, h0, X', hL, e1, e2, ⟨u, hp, hb, hF⟩, hce, hcv, hcl, st⟩
  · cases hv
    obtain ⟨k1, k2, k3⟩ := vx_keep h0 e1 hS hA hf hL hF
    obtain ⟨t2, a1, b1⟩ := kk r u t T'.heap (locs ++ L) e1.symm (by rw [← e2]; exact X'.warmed.alike) hp hb k1 k2 k3 T' rfl X'
    exact ⟨t2, st t2 a1, b1⟩
  · obtain ⟨k1, k2, k3⟩ := vx_keep h0 e1 hS hAX hf hL hF
    obtain ⟨t2, a1, b1⟩ := kx E ce q u t T'.heap (locs ++ L) e1.symm (by rw [← e2]; exact X'.warmed.alike) hp hb k1 k2 k3 (by rw [e1]; exact hce) hcv hcl T' rfl X'
    exact ⟨t2, st.trans a1, b1⟩
theorem vx_calll {S SX : Type} {post : Int64 → S → Prop} {px : SX → Prop} {B : S → State → Prop} {BX : String → SX → State → Prop} {AX : Nat → Prop} (hr : vx_Run p l e R s m args below meth c H locs cells slots mc ms (F0 m pc ls st0) rest (va_Ql post B A1 a) (vx_X px BX AX) free) (hS : va_S A0 H0 H locs) (hA : ∀ q, q < H.size → A1 q → A0 q) (hf : ∀ q, free q → A0 q) (hAX : ∀ q, q < H.size → AX q → A0 q)
    (kx : ∀ (E : String) (ce : Cell) (q9 : Addr) (u : SX) (t : State) (H1 : Heap) (locs1 : List Loc), t.heap = H1 → s.vm.Alike t.vm → px u → BX E u t → H.size ≤ H1.size → (∀ q : Nat, q < H.size → ¬ AX q → H1[q]? = H[q]?) → va_S A0 H0 H1 locs1 → H1[q9]? = some ce → ce.vm = .none → s.vm.findClass E = some ce.cls → vx_W p l e R s m args below meth c H1 locs1 (cells + mc) (slots + ms) Q (F0 m pc ls rest) q9)
    (kk : ∀ (r : Int64) (u : S) (t : State) (H1 : Heap) (locs1 : List Loc), t.heap = H1 → s.vm.Alike t.vm → post r u → B u t → H.size ≤ H1.size → (∀ q : Nat, q < H.size → ¬ A1 q → H1[q]? = H[q]?) → va_S A0 H0 H1 locs1 → W p l e R s m args below meth c H1 locs1 (cells + mc) (slots + ms) Q (F0 m (pc + 3) ls (.long r :: rest))) : W p l e R s m args below meth c H locs cells slots Q (F0 m pc ls st0) := by
  intro T hT X
  rcases hr T hT X with ⟨v, st₀, t, T', L, h0, X', hL, e1, e2, ⟨⟨r, u, hv, hp, hb⟩, hF⟩, st⟩ | ⟨q, st₀, t, T', L, E, ce, h0, X', hL, e1, e2, ⟨u, hp, hb, hF⟩, hce, hcv, hcl, st⟩
  · cases hv
    obtain ⟨k1, k2, k3⟩ := vx_keep h0 e1 hS hA hf hL hF
    obtain ⟨t2, a1, b1⟩ := kk r u t T'.heap (locs ++ L) e1.symm (by rw [← e2]; exact X'.warmed.alike) hp hb k1 k2 k3 T' rfl X'
    exact ⟨t2, st t2 a1, b1⟩
  · obtain ⟨k1, k2, k3⟩ := vx_keep h0 e1 hS hAX hf hL hF
    obtain ⟨t2, a1, b1⟩ := kx E ce q u t T'.heap (locs ++ L) e1.symm (by rw [← e2]; exact X'.warmed.alike) hp hb k1 k2 k3 (by rw [e1]; exact hce) hcv hcl T' rfl X'
    exact ⟨t2, st.trans a1, b1⟩
theorem vx_callf {S SX : Type} {post : UInt32 → S → Prop} {px : SX → Prop} {B : S → State → Prop} {BX : String → SX → State → Prop} {AX : Nat → Prop} (hr : vx_Run p l e R s m args below meth c H locs cells slots mc ms (F0 m pc ls st0) rest (va_Qf post B A1 a) (vx_X px BX AX) free) (hS : va_S A0 H0 H locs) (hA : ∀ q, q < H.size → A1 q → A0 q) (hf : ∀ q, free q → A0 q) (hAX : ∀ q, q < H.size → AX q → A0 q)
    (kx : ∀ (E : String) (ce : Cell) (q9 : Addr) (u : SX) (t : State) (H1 : Heap) (locs1 : List Loc), t.heap = H1 → s.vm.Alike t.vm → px u → BX E u t → H.size ≤ H1.size → (∀ q : Nat, q < H.size → ¬ AX q → H1[q]? = H[q]?) → va_S A0 H0 H1 locs1 → H1[q9]? = some ce → ce.vm = .none → s.vm.findClass E = some ce.cls → vx_W p l e R s m args below meth c H1 locs1 (cells + mc) (slots + ms) Q (F0 m pc ls rest) q9)
    (kk : ∀ (r : UInt32) (u : S) (t : State) (H1 : Heap) (locs1 : List Loc), t.heap = H1 → s.vm.Alike t.vm → post r u → B u t → H.size ≤ H1.size → (∀ q : Nat, q < H.size → ¬ A1 q → H1[q]? = H[q]?) → va_S A0 H0 H1 locs1 → W p l e R s m args below meth c H1 locs1 (cells + mc) (slots + ms) Q (F0 m (pc + 3) ls (.float r :: rest))) : W p l e R s m args below meth c H locs cells slots Q (F0 m pc ls st0) := by
  intro T hT X
  rcases hr T hT X with ⟨v, st₀, t, T', L, h0, X', hL, e1, e2, ⟨⟨r, u, hv, hp, hb⟩, hF⟩, st⟩ | ⟨q, st₀, t, T', L, E, ce, h0, X', hL, e1, e2, ⟨u, hp, hb, hF⟩, hce, hcv, hcl, st⟩
  · cases hv
    obtain ⟨k1, k2, k3⟩ := vx_keep h0 e1 hS hA hf hL hF
    obtain ⟨t2, a1, b1⟩ := kk r u t T'.heap (locs ++ L) e1.symm (by rw [← e2]; exact X'.warmed.alike) hp hb k1 k2 k3 T' rfl X'
    exact ⟨t2, st t2 a1, b1⟩
  · obtain ⟨k1, k2, k3⟩ := vx_keep h0 e1 hS hAX hf hL hF
    obtain ⟨t2, a1, b1⟩ := kx E ce q u t T'.heap (locs ++ L) e1.symm (by rw [← e2]; exact X'.warmed.alike) hp hb k1 k2 k3 (by rw [e1]; exact hce) hcv hcl T' rfl X'
    exact ⟨t2, st.trans a1, b1⟩
theorem vx_calld {S SX : Type} {post : UInt64 → S → Prop} {px : SX → Prop} {B : S → State → Prop} {BX : String → SX → State → Prop} {AX : Nat → Prop} (hr : vx_Run p l e R s m args below meth c H locs cells slots mc ms (F0 m pc ls st0) rest (va_Qd post B A1 a) (vx_X px BX AX) free) (hS : va_S A0 H0 H locs) (hA : ∀ q, q < H.size → A1 q → A0 q) (hf : ∀ q, free q → A0 q) (hAX : ∀ q, q < H.size → AX q → A0 q)
    (kx : ∀ (E : String) (ce : Cell) (q9 : Addr) (u : SX) (t : State) (H1 : Heap) (locs1 : List Loc), t.heap = H1 → s.vm.Alike t.vm → px u → BX E u t → H.size ≤ H1.size → (∀ q : Nat, q < H.size → ¬ AX q → H1[q]? = H[q]?) → va_S A0 H0 H1 locs1 → H1[q9]? = some ce → ce.vm = .none → s.vm.findClass E = some ce.cls → vx_W p l e R s m args below meth c H1 locs1 (cells + mc) (slots + ms) Q (F0 m pc ls rest) q9)
    (kk : ∀ (r : UInt64) (u : S) (t : State) (H1 : Heap) (locs1 : List Loc), t.heap = H1 → s.vm.Alike t.vm → post r u → B u t → H.size ≤ H1.size → (∀ q : Nat, q < H.size → ¬ A1 q → H1[q]? = H[q]?) → va_S A0 H0 H1 locs1 → W p l e R s m args below meth c H1 locs1 (cells + mc) (slots + ms) Q (F0 m (pc + 3) ls (.double r :: rest))) : W p l e R s m args below meth c H locs cells slots Q (F0 m pc ls st0) := by
  intro T hT X
  rcases hr T hT X with ⟨v, st₀, t, T', L, h0, X', hL, e1, e2, ⟨⟨r, u, hv, hp, hb⟩, hF⟩, st⟩ | ⟨q, st₀, t, T', L, E, ce, h0, X', hL, e1, e2, ⟨u, hp, hb, hF⟩, hce, hcv, hcl, st⟩
  · cases hv
    obtain ⟨k1, k2, k3⟩ := vx_keep h0 e1 hS hA hf hL hF
    obtain ⟨t2, a1, b1⟩ := kk r u t T'.heap (locs ++ L) e1.symm (by rw [← e2]; exact X'.warmed.alike) hp hb k1 k2 k3 T' rfl X'
    exact ⟨t2, st t2 a1, b1⟩
  · obtain ⟨k1, k2, k3⟩ := vx_keep h0 e1 hS hAX hf hL hF
    obtain ⟨t2, a1, b1⟩ := kx E ce q u t T'.heap (locs ++ L) e1.symm (by rw [← e2]; exact X'.warmed.alike) hp hb k1 k2 k3 (by rw [e1]; exact hce) hcv hcl T' rfl X'
    exact ⟨t2, st.trans a1, b1⟩
theorem vx_callv {S SX : Type} {post : S → Prop} {px : SX → Prop} {B : S → State → Prop} {BX : String → SX → State → Prop} {AX : Nat → Prop} (hr : vx_Run p l e R s m args below meth c H locs cells slots mc ms (F0 m pc ls st0) rest (va_Qv post B A1 a) (vx_X px BX AX) free) (hS : va_S A0 H0 H locs) (hA : ∀ q, q < H.size → A1 q → A0 q) (hf : ∀ q, free q → A0 q) (hAX : ∀ q, q < H.size → AX q → A0 q)
    (kx : ∀ (E : String) (ce : Cell) (q9 : Addr) (u : SX) (t : State) (H1 : Heap) (locs1 : List Loc), t.heap = H1 → s.vm.Alike t.vm → px u → BX E u t → H.size ≤ H1.size → (∀ q : Nat, q < H.size → ¬ AX q → H1[q]? = H[q]?) → va_S A0 H0 H1 locs1 → H1[q9]? = some ce → ce.vm = .none → s.vm.findClass E = some ce.cls → vx_W p l e R s m args below meth c H1 locs1 (cells + mc) (slots + ms) Q (F0 m pc ls rest) q9)
    (kk : ∀ (u : S) (t : State) (H1 : Heap) (locs1 : List Loc), t.heap = H1 → s.vm.Alike t.vm → post u → B u t → H.size ≤ H1.size → (∀ q : Nat, q < H.size → ¬ A1 q → H1[q]? = H[q]?) → va_S A0 H0 H1 locs1 → W p l e R s m args below meth c H1 locs1 (cells + mc) (slots + ms) Q (F0 m (pc + 3) ls (rest))) : W p l e R s m args below meth c H locs cells slots Q (F0 m pc ls st0) := by
  intro T hT X
  rcases hr T hT X with ⟨v, st₀, t, T', L, h0, X', hL, e1, e2, ⟨⟨u, hv, hp, hb⟩, hF⟩, st⟩ | ⟨q, st₀, t, T', L, E, ce, h0, X', hL, e1, e2, ⟨u, hp, hb, hF⟩, hce, hcv, hcl, st⟩
  · cases hv
    obtain ⟨k1, k2, k3⟩ := vx_keep h0 e1 hS hA hf hL hF
    obtain ⟨t2, a1, b1⟩ := kk u t T'.heap (locs ++ L) e1.symm (by rw [← e2]; exact X'.warmed.alike) hp hb k1 k2 k3 T' rfl X'
    exact ⟨t2, st t2 a1, b1⟩
  · obtain ⟨k1, k2, k3⟩ := vx_keep h0 e1 hS hAX hf hL hF
    obtain ⟨t2, a1, b1⟩ := kx E ce q u t T'.heap (locs ++ L) e1.symm (by rw [← e2]; exact X'.warmed.alike) hp hb k1 k2 k3 (by rw [e1]; exact hce) hcv hcl T' rfl X'
    exact ⟨t2, st.trans a1, b1⟩
/-- caught by the row x of this method's table; the rows ahead don't take it -/
theorem vx_catch {own name : String} {E : String} {ce : Cell} {q : Addr} (hown : s.vm.findClass own = some m.cls) (pre : List ExceptionTableEntry) (x : ExceptionTableEntry) (suf : List ExceptionTableEntry) (hsplit : c.exceptionTable.toList = pre ++ x :: suf)
    (hpass : ∀ z ∈ pre, covers z pc = false ∨ (z.catchType ≠ 0 ∧ ∃ nm : String, (Cond.classLink own z.catchType nm).before args s = true ∧ va_Nc E nm s)) (hx : covers x pc = true) (h0 : x.catchType ≠ 0)
    (hlink : (Cond.classLink own x.catchType name).before args s = true) (hcast : (Cond.castable E name).before args s = true) (hcell : H[q]? = some ce) (hv : ce.vm = .none) (hcl : s.vm.findClass E = some ce.cls)
    (kk : W p l e R s m args below meth c H locs cells slots Q (F0 m x.handlerPc ls [.ref q])) : vx_W p l e R s m args below meth c H locs cells slots Q (F0 m pc ls rest) q := by
  intro T hT X
  have hpl : e.platform.magicAccessors = ({} : Platform).magicAccessors := by rw [X.admits.platform]
  obtain ⟨c3, c4, hc3, hc4, hasg⟩ := Cond.castable_spec hcast
  cases Option.some.inj (hc3.symm.trans hcl)
  obtain ⟨c5, hc5, hcl5⟩ := Cond.classLink_spec hown hlink e.platform hpl
  cases Option.some.inj (hc4.symm.trans hc5)
  obtain ⟨vm', X', st⟩ := X.thenCaughtThrough q (g := F0 m pc ls rest) rfl (Steps.refl _) (by rw [hT]; exact hcell) (by rw [hv]; rfl) (by obtain ⟨k9, h9, -⟩ := Vm.findClass_spec hcl; exact ⟨k9, h9⟩) pre x suf hsplit
    (fun z hz => by
      rcases hpass z hz with h | ⟨hz0, nm, hl1, hn1⟩
      · exact Or.inl h
      · obtain ⟨c6, hc6, hcl6⟩ := Cond.classLink_spec hown hl1 e.platform hpl
        obtain ⟨a8, b8, h1, h2, h3⟩ := hn1
        cases Option.some.inj (h1.symm.trans hcl)
        cases Option.some.inj (h2.symm.trans hc6)
        exact Or.inr ⟨hz0, _, hcl6, h3⟩) hx (Or.inr ⟨h0, c4, hcl5, hasg⟩)
  obtain ⟨t, a1, b1⟩ := kk (T.setVm vm') hT X'
  exact ⟨t, st.trans a1, b1⟩
end Rows
section Ends
variable {p : Program} {l : Launch} {e : Env} {R : Room} {s : State} {m : MethodId} {args : Array Value} {below : List Frame} {meth : Method} {c : Code} {H : Heap} {locs : List Loc} {cells slots : Nat} {Q : State → Prop}
variable {mc ms : Nat} {free : Addr → Prop} {A0 A1 : Nat → Prop} {H0 : Heap} {a : Array Value} {ls : Array Slot} {st0 rest : List Value}
variable {Qc : Array Value → State → Outcome → State → Prop} {XC : String → State → State → Prop}
/-- what a body that may throw owes at its end -/
def vx_MQ (below : List Frame) (Qc : Array Value → State → Outcome → State → Prop) (XC : String → State → State → Prop) (a : Array Value) (s : State) (mc ms : Nat) (free : Addr → Prop) : State → Prop := fun t =>
  ∃ o, t.status = .running ∧ Ended t below o ∧ vx_Q Qc XC mc ms free a s o t
theorem vx_ret {g : JFrame} {mc ms : Nat} (k : W p l e R s m args below meth c H locs cells slots (MQ below Qc args s mc ms free) g) : W p l e R s m args below meth c H locs cells slots (vx_MQ below Qc XC args s mc ms free) g := by
  intro T hT X
  obtain ⟨t, a1, o, b1, b2, b3, b4⟩ := k T hT X
  exact ⟨t, a1, o, b1, b2, Or.inl ⟨b3, b4⟩⟩
/-- not caught here: it goes on to the caller -/
theorem vx_widen {g : JFrame} {q : Addr} {k n : Nat} (h1 : cells ≤ k) (h2 : slots ≤ n) (kk : vx_W p l e R s m args below meth c H locs k n Q g q) : vx_W p l e R s m args below meth c H locs cells slots Q g q := fun T hT X => kk T hT (stand_widen X h1 h2)
theorem vx_out {pc : Nat} {E : String} {ce : Cell} {q : Addr} {mc ms : Nat} (hout : ∀ x ∈ c.exceptionTable.toList, covers x pc = false) (hlocks : meth.locks = false) (hcell : H[q]? = some ce) (hv : ce.vm = .none) (hcl : s.vm.findClass E = some ce.cls)
    (hx : ∀ t : State, t.heap = H → s.vm.Alike t.vm → XC E s t) (hf : ∀ z ∈ locs, free z.base) (hc : cells ≤ mc) (hs : slots ≤ ms) :
    vx_W p l e R s m args below meth c H locs cells slots (vx_MQ below Qc XC args s mc ms free) (F0 m pc ls rest) q := by
  intro T hT X
  obtain ⟨st1, hrun, hend, hW, hsm⟩ := X.leaveThrown q (g := F0 m pc ls rest) rfl rfl rfl hout hlocks
  have hcell9 : (T.setFrames (.throwing q :: below)).heap[q]? = some ce := by
    show T.heap[q]? = some ce
    rw [hT]; exact hcell
  exact ⟨_, st1, .threw q, hrun, hend, Or.inr ⟨q, rfl, E, ce, locs, hx _ hT hW.alike, hcell9, hv, hcl, hW, hsm.mono hc hs, hf⟩⟩
theorem vx_frame {U : State} {k n : Nat} (h : s.sameButNew ({ U with vm := s.vm } : State) locs k n) : s.heap.size ≤ U.heap.size ∧ ∀ q : Nat, q < s.heap.size → (∀ z ∈ locs, z.base ≠ q) → U.heap[q]? = s.heap[q]? := by
  obtain ⟨-, h2, -, -, -, h6⟩ := h
  refine ⟨h2, fun q hq hz => ?_⟩
  obtain ⟨c9, e1, e2, e3, e4⟩ := h6 q _ (Array.getElem?_eq_getElem hq)
  have hs : c9.slots = (s.heap[q]).slots := Array.ext_getElem? fun i => e4 i fun hm => hz _ hm rfl
  have h9 : c9 = s.heap[q] := by
    rw [hs] at e2
    exact e2
  have e5 : U.heap[q]? = some c9 := e1
  rw [e5, h9, Array.getElem?_eq_getElem hq]
/-- the words of a throw but the four that speak of the heap -/
def vx_no (w : Cond) : Bool := decide (w ≠ .isRef (.static Bundle.tN "UNASSIGNED_STACK" Bundle.steD)) && decide (w ≠ .isRef (.static Bundle.tN "SUPPRESSED_SENTINEL" Bundle.listD)) && decide (w ≠ .laysStatic Bundle.tN "UNASSIGNED_STACK" Bundle.steD) && decide (w ≠ .laysStatic Bundle.tN "SUPPRESSED_SENTINEL" Bundle.listD)
def vx_at0 (own : String) (ic : Nat) (X : String) (names : List String) : List Cond := (Bundle.ownAtoms0 own ic X names).filter vx_no
def vx_atS (own : String) (ic : Nat) (X : String) (names : List String) : List Cond := (Bundle.ownAtoms own ic X names).filter vx_no
/-- a word that the tables alone decide, or a good one -/
def vx_ot (w : Cond) : Bool := w.onTables || goodWord w
theorem vx_ot_at {args a' : Array Value} {s U : State} {w : Cond} (hW : s.WarmedH U.vm) (hvm : s.vm = U.vm) (hg : vx_ot w = true) (h : w.before args s = true) : w.before a' U = true := by
  simp only [vx_ot, Bool.or_eq_true] at hg
  rcases hg with hg | hg
  · exact va_tabs hg hvm h
  · exact word_at hW (good_of_word hg) h
/-- a list's words: the good ones out of the method's own list, the others by premises of their own -/
theorem vx_hat {args : Array Value} {s : State} {L B : List Cond} (h1 : ∀ w ∈ L.filter goodWord, w.before args s = true) (h2 : ∀ w ∈ L.filter (fun w => !goodWord w), w ∈ B) (h3 : ∀ w ∈ B, w.before args s = true) : ∀ w ∈ L, w.before args s = true := by
  intro w hw
  by_cases g : goodWord w = true
  · exact h1 w (List.mem_filter.mpr ⟨hw, g⟩)
  · refine h3 w (h2 w (List.mem_filter.mpr ⟨hw, ?_⟩))
    show (!goodWord w) = true
    cases hgw : goodWord w
    · rfl
    · exact absurd hgw g
theorem vx_c {args : Array Value} {s : State} {w : Cond} {B : List Cond} (h : w.before args s = true) (t : ∀ w ∈ B, w.before args s = true) : ∀ w' ∈ w :: B, w'.before args s = true := fun w' h' => (List.mem_cons.mp h').elim (fun e => by rw [e]; exact h) (t w')
theorem vx_n {args : Array Value} {s : State} : ∀ w ∈ ([] : List Cond), w.before args s = true := fun _ h => nomatch h
theorem vx_own {args : Array Value} {s : State} {L : List Cond} (h1 : ∀ w ∈ L.filter vx_no, w.before args s = true)
    (hU : (Cond.isRef (.static Bundle.tN "UNASSIGNED_STACK" Bundle.steD)).before args s = true) (hN : (Cond.isRef (.static Bundle.tN "SUPPRESSED_SENTINEL" Bundle.listD)).before args s = true)
    (lU : (Cond.laysStatic Bundle.tN "UNASSIGNED_STACK" Bundle.steD).before args s = true) (lN : (Cond.laysStatic Bundle.tN "SUPPRESSED_SENTINEL" Bundle.listD).before args s = true) : ∀ w ∈ L, w.before args s = true := by
  intro w hw
  by_cases e1 : w = .isRef (.static Bundle.tN "UNASSIGNED_STACK" Bundle.steD)
  · rw [e1]; exact hU
  · by_cases e2 : w = .isRef (.static Bundle.tN "SUPPRESSED_SENTINEL" Bundle.listD)
    · rw [e2]; exact hN
    · by_cases e3 : w = .laysStatic Bundle.tN "UNASSIGNED_STACK" Bundle.steD
      · rw [e3]; exact lU
      · by_cases e4 : w = .laysStatic Bundle.tN "SUPPRESSED_SENTINEL" Bundle.listD
        · rw [e4]; exact lN
        · exact h1 w (List.mem_filter.mpr ⟨hw, by unfold vx_no; rw [decide_eq_true e1, decide_eq_true e2, decide_eq_true e3, decide_eq_true e4]; rfl⟩)
/-- where a static field lies, its class's statics cell in H -/
def vx_L (C n d : String) (A : Nat → Prop) (U : State) (H : Heap) : Prop := ∃ (c : ClassId) (k : Class) (i : Nat) (f : Field) (a : Nat) (cell : Cell), U.vm.findClass C = some c ∧ U.fieldFound? C n d = some (c, k, i, f) ∧ f.isStatic = true ∧ k.statics = some a ∧ H[a]? = some cell ∧ cell.vm.isStatics = true ∧ cell.cls = c ∧ f.slot < cell.slots.size ∧ k.staticTypes[f.slot]? = some f.type ∧ ¬ A a
theorem vx_L.moved {C n d : String} {A : Nat → Prop} {u U : State} {H : Heap} (hvm : u.vm.Alike U.vm) (h : vx_L C n d A u H) : vx_L C n d A U H := by
  obtain ⟨c, k, i, f, a, cell, h1, h2, h3, h4, h5, h6, h7, h8, h9, h10⟩ := h
  obtain ⟨k', hi', he⟩ := State.fieldFound?_setVm hvm h2
  exact ⟨c, k', i, f, a, cell, by rw [hvm.findClass]; exact h1, hi', h3, by rw [he]; exact h4, h5, h6, h7, h8, by rw [he]; exact h9, h10⟩
theorem vx_L.kept {C n d : String} {A : Nat → Prop} {U : State} {H H1 : Heap} (h : vx_L C n d A U H) (hq : ∀ a : Nat, a < H.size → ¬ A a → H1[a]? = H[a]?) : vx_L C n d A U H1 := by
  obtain ⟨c, k, i, f, a, cell, h1, h2, h3, h4, h5, h6, h7, h8, h9, h10⟩ := h
  exact ⟨c, k, i, f, a, cell, h1, h2, h3, h4, by rw [hq a (Array.getElem?_eq_some_iff.mp h5).1 h10]; exact h5, h6, h7, h8, h9, h10⟩
theorem vx_L.narrow {C n d : String} {A B : Nat → Prop} {U : State} {H : Heap} (h : vx_L C n d A U H) (hAB : ∀ q, B q → A q) : vx_L C n d B U H := by
  obtain ⟨c, k, i, f, a, cell, h1, h2, h3, h4, h5, h6, h7, h8, h9, h10⟩ := h
  exact ⟨c, k, i, f, a, cell, h1, h2, h3, h4, h5, h6, h7, h8, h9, fun z => h10 (hAB _ z)⟩
theorem vx_L.word {C n d : String} {A : Nat → Prop} {s : State} {args : Array Value} (h : vx_L C n d A s s.heap) : (Cond.laysStatic C n d).before args s = true := by
  obtain ⟨c, k, i, f, a, cell, h1, h2, h3, h4, h5, h6, h7, h8, h9, -⟩ := h
  show (Cond.laysStatic C n d).holds args s none s [] = true
  exact Cond.laysStatic_of h1 h2 h3 h4 h5 h6 h7 h8 h9
/-- .. and what it holds: null or some reference -/
def vx_Zq (C n d : String) (A : Nat → Prop) (U : State) (H : Heap) : Prop := va_Zq C n d A U H ∧ vx_L C n d A U H
theorem vx_Zq.moved {C n d : String} {A : Nat → Prop} {u U : State} {H : Heap} (hvm : u.vm.Alike U.vm) (h : vx_Zq C n d A u H) : vx_Zq C n d A U H := ⟨va_Zq.moved hvm h.1, vx_L.moved hvm h.2⟩
theorem vx_Zq.kept {C n d : String} {A : Nat → Prop} {U : State} {H H1 : Heap} (h : vx_Zq C n d A U H) (hq : ∀ a : Nat, a < H.size → ¬ A a → H1[a]? = H[a]?) : vx_Zq C n d A U H1 := ⟨va_Zq.kept h.1 hq, vx_L.kept h.2 hq⟩
theorem vx_Zq.narrow {C n d : String} {A B : Nat → Prop} {U : State} {H : Heap} (h : vx_Zq C n d A U H) (hAB : ∀ q, B q → A q) : vx_Zq C n d B U H := ⟨va_Zq.narrow h.1 hAB, vx_L.narrow h.2 hAB⟩
theorem vx_Zqof {args : Array Value} {s : State} {C n d : String} {A : Nat → Prop} (hl : (Cond.laysStatic C n d).before args s = true) (hini : (Cond.initialized C).before args s = true) (h : (Cond.isRef (.static C n d)).before args s = true) (hA : ∀ a : Nat, a < s.heap.size → ¬ A a) : vx_Zq C n d A s s.heap := by
  refine ⟨va_Zqof hl hini h hA, ?_⟩
  obtain ⟨c, k, i, f, a, cell, h1, h2, h3, h4, h5, h6, h7, h8, h9⟩ := Cond.laysStatic_spec hl
  exact ⟨c, k, i, f, a, cell, h1, h2, h3, h4, h5, h6, h7, h8, h9, hA a (Array.getElem?_eq_some_iff.mp h5).1⟩
theorem vx_isRef {C n d : String} {v : Value} {A : Nat → Prop} {s : State} {args : Array Value} (h : va_Z C n d v A s s.heap) (hv : v.isRef = true) : (Cond.isRef (.static C n d)).before args s = true := by
  obtain ⟨cf, kf, fi, f, a, cell, h1, h2, h3, h4, h5, h6, h7, -⟩ := h
  have he : (Term.static C n d).eval args s none [] s = some v := by
    simp [Term.eval, State.fieldNamed?, h1, h2, h4, h5, h6, h7]
  simp only [Cond.before, Cond.holds, Cond.value, he]
  cases v <;> simp_all [Value.isRef]
theorem vx_isRefq {C n d : String} {A : Nat → Prop} {s : State} {args : Array Value} (h : va_Zq C n d A s s.heap) : (Cond.isRef (.static C n d)).before args s = true := by
  rcases h with h | ⟨t, h⟩
  · exact vx_isRef h rfl
  · exact vx_isRef h rfl
/-- the same frame, seen from here: as if the method were called anew in this heap -/
theorem vx_rebase {T : State} (X : Stand p l e R s m args below meth c T locs cells slots) {R' : Room} (hf : R'.frames ≤ R.frames) (hl : R'.locals ≤ R.locals) (hc : cells + R'.cells ≤ R.cells) (hs : slots + R'.slots ≤ R.slots) :
    Stand p l e R' ((T.setVm s.vm).setFrames (.invoking m args :: below)) m args below meth c T [] 0 0 := by
  have htop : (T.setVm s.vm).topJava?.isSome := X.here.top
  have hF : ((T.setVm s.vm).setFrames (.invoking m args :: below)).frames = .invoking m args :: below := State.frames_setFrames _ (State.cur_lt_of_top htop)
  obtain ⟨g₀, hg0⟩ := Option.isSome_iff_exists.mp htop
  obtain ⟨r, hr⟩ := State.topJava?_eq_some.mp hg0
  have hl9 : e.platform.stackLimits (T.setVm s.vm).me = e.platform.stackLimits s.me := X.limits
  have hb9 : (T.setVm s.vm).me.stackBytes = s.me.stackBytes := X.bytes
  refine ⟨X.admits, X.cas, X.clock, hF, ?_, X.hears, X.method, X.code, X.here, X.tail, X.warmed, ?_, ?_, ?_⟩
  · have h := X.room
    have hU : ((T.setVm s.vm).setFrames (.invoking m args :: below)).localsInUse = s.localsInUse := by
      rw [State.localsInUse_invoking hF (meth := meth) (c := c) X.method X.code, State.localsInUse_invoking X.frames X.method X.code]
    simp only [State.hasRoom, Bool.and_eq_true, decide_eq_true_eq] at h ⊢
    obtain ⟨⟨⟨⟨h1, h2, h3, h4, h5, h6⟩, h7⟩, h8⟩, h9⟩ := h
    rw [X.frames, List.length_cons] at h2 h3
    have q1 := X.heapSize
    have q2 := X.used
    simp only [hF, hU, List.length_cons, State.stackLimits_setFrames, State.stackBytes_setFrames, hl9, hb9]
    refine ⟨⟨⟨⟨by omega, by omega, by omega, by omega, by omega, h6⟩, ?_⟩, ?_⟩, X.book⟩
    · show T.heap.size + R'.cells ≤ e.platform.maxCells
      omega
    · show T.slotsUsed + R'.slots ≤ e.platform.maxSlots
      omega
  · rw [State.stackLimits_setFrames]; rfl
  · rw [State.stackBytes_setFrames]; rfl
  · refine ⟨?_, Nat.le_refl _, Nat.le_refl _, ?_, ?_, fun a c9 h9 => ⟨c9, h9, rfl, rfl, fun _ _ => rfl⟩⟩
    · obtain ⟨t, ht, -⟩ := State.frames_cons hr
      show T.setVm s.vm = { ((T.setVm s.vm).setFrames (.invoking m args :: below)).setFrames (T.setVm s.vm).frames with heap := T.heap, slotsUsed := T.slotsUsed }
      rw [State.setFrames_setFrames, State.setFrames_self ht]
      rfl
    · show T.slotsUsed = T.slotsUsed + ((T.heap.toList.drop T.heap.size).map (·.slots.size)).sum
      rw [List.drop_eq_nil_of_le (Nat.le_of_eq Array.length_toList)]
      rfl
    · show ((T.heap.toList.drop T.heap.size).map (·.slots.size)).sum ≤ 0
      rw [List.drop_eq_nil_of_le (Nat.le_of_eq Array.length_toList)]
      exact Nat.le_refl _
/-- 'throw new E()': new; dup; invokespecial; athrow -/
theorem vx_throw0 {cc : ByteArray} {pc : Nat} (hexec : p.tables.exec = Jvm.exec) (hb : c.code = cc) (hl : l.stackTraces = false) {own cls : String} {names : List String} {ik ic mc ms : Nat} {A : Nat → Prop}
    (hown : s.vm.findClass own = some m.cls) (hcls : Bundle.fit cls = true) (hnames : ∀ n ∈ names, Bundle.fit n = true)
    (hk : (Cond.classLink own ik cls).before args s = true) (hini : (Cond.initialized cls).before args s = true) (hat : ∀ w ∈ vx_at0 own ic cls names, w.before args s = true)
    (hgood : ∀ w ∈ Cond.classLink own ik cls :: Cond.initialized cls :: vx_at0 own ic cls names, vx_ot w = true)
    (hU : vx_Zq Bundle.tN "UNASSIGNED_STACK" Bundle.steD A s s.heap) (hN : vx_Zq Bundle.tN "SUPPRESSED_SENTINEL" Bundle.listD A s s.heap) (hS : va_S A s.heap H locs) (hsize : ls.size = c.maxLocals)
    (d0 : decode cc pc = .ok (.new ik, 3)) (d3 : decode cc (pc + 3) = .ok (.dup, 1)) (d4 : decode cc (pc + 4) = .ok (.invokespecial ic, 3)) (d7 : decode cc (pc + 7) = .ok (.athrow, 1))
    (hout : ∀ x ∈ c.exceptionTable.toList, covers x (pc + 7) = false)
    (hRframes : names.length + 3 < R.frames) (hRlocals : (rest.map fun v => v.category).sum + (13 * (names.length + 1) + 42) ≤ R.locals) (hRcells : cells + 1 ≤ R.cells) (hRslots : slots + 6 ≤ R.slots) (hlocks : meth.locks = false)
    (hx : ∀ t : State, s.vm.Alike t.vm → H.size ≤ t.heap.size → (∀ q : Nat, q < H.size → t.heap[q]? = H[q]?) → XC cls s t)
    (hf : ∀ z ∈ locs, free z.base) (hc : cells + 1 ≤ mc) (hs : slots + 6 ≤ ms) :
    W p l e R s m args below meth c H locs cells slots (vx_MQ below Qc XC args s mc ms free) (F0 m pc ls rest) := by
  intro T hT X
  have htr : e.platform.stackTraces = false := (show e.platform.stackTraces = l.stackTraces by rw [X.admits.platform]).trans hl
  have Y := vx_rebase X (R' := { frames := R.frames, locals := R.locals, cells := 1, slots := 6 }) (Nat.le_refl _) (Nat.le_refl _) hRcells hRslots
  obtain ⟨s', hA⟩ : ∃ z, z = (T.setVm s.vm).setFrames (.invoking m args :: below) := ⟨_, rfl⟩
  rw [← hA] at Y
  have hvm : s'.vm = s.vm := by rw [hA]; rfl
  have hhp : s'.heap = H := by rw [hA]; exact hT
  have hW0 : s.WarmedH s'.vm := by rw [hvm]; exact State.WarmedH.refl s
  have hat' : ∀ w ∈ vx_at0 own ic cls names, w.before args s' = true := fun w hw => vx_ot_at hW0 hvm.symm (hgood w (List.mem_cons_of_mem _ (List.mem_cons_of_mem _ hw))) (hat w hw)
  have hk' : (Cond.classLink own ik cls).before args s' = true := vx_ot_at hW0 hvm.symm (hgood _ List.mem_cons_self) hk
  have hini' : (Cond.initialized cls).before args s' = true := vx_ot_at hW0 hvm.symm (hgood _ (List.mem_cons_of_mem _ List.mem_cons_self)) hini
  have hU' : vx_Zq Bundle.tN "UNASSIGNED_STACK" Bundle.steD A s' s'.heap := by rw [hhp]; exact vx_Zq.moved hW0.alike (hU.kept hS.2.1)
  have hN' : vx_Zq Bundle.tN "SUPPRESSED_SENTINEL" Bundle.listD A s' s'.heap := by rw [hhp]; exact vx_Zq.moved hW0.alike (hN.kept hS.2.1)
  have h : ∀ w ∈ Bundle.ownAtoms0 own ic cls names, w.before args s' = true := vx_own hat' (vx_isRefq hU'.1) (vx_isRefq hN'.1) hU'.2.word hN'.2.word
  have hown' : s'.vm.findClass own = some m.cls := by rw [hvm]; exact hown
  have hins : (Cond.instantiable cls 6).before args s' = true := h _ (by simp [Bundle.ownAtoms0])
  obtain ⟨vm₁, cX, kX, hfX, hkX, -, -, X₁, st1⟩ := Y.newCold hexec (own := own) (C := cls) (index := ik) (n := 6) hown' hk' hins hini'
    (g := F0 m pc ls rest) rfl (by rw [hb]; exact d0) (Nat.le_refl _) (Nat.le_refl _)
  generalize hT1 : (T.setVm vm₁).pushCell { cls := cX, slots := kX.instanceTypes.map defaultValue, vm := .none } = T1 at X₁ st1
  have hcat : (Value.ref T.heap.size).category = 1 := rfl
  have hcellA : T1.heap[T.heap.size]? = some (freshCell cX kX) := by rw [← hT1]; exact State.heap_pushCell_size _ _
  have d3' : decode c.code (pc + 3) = .ok (.dup, 1) := by rw [hb]; exact d3
  obtain ⟨U, hsteps, hrun, hend, hW, hsame, ce, hce, hO⟩ := X₁.ctorThrow0 hexec htr (own := own) (cls := cls) (names := names) (ic := ic) hown' hcls hnames h (fun x hx => nomatch hx) hfX hkX hcellA (by rw [hhp, hT]; exact Nat.le_refl _)
    (g := { method := m, pc := pc + 4, locals := ls, stack := .ref T.heap.size :: .ref T.heap.size :: rest, locked := none }) rfl hsize rfl rfl (rest := rest) rfl
    (by rw [hb]; exact d4) (by rw [hb]; exact d7) hout hRframes (by simp only [List.map_cons, List.sum_cons, hcat]; omega) hlocks
  obtain ⟨f1, f2⟩ := vx_frame hsame
  rw [hhp] at f1 f2
  have hWs : s.WarmedH U.vm := State.WarmedH.trans hW0 hW
  have hcl : s.vm.findClass cls = some ce.cls := by
    have h9 := hO.cls
    rw [hvm] at h9
    exact h9
  have hall : s.sameButNew ({ U with vm := s.vm } : State) locs mc ms := by
    subst hA
    obtain ⟨e1, e2⟩ := hsame
    rw [State.setFrames_setFrames] at e1
    have h2 : (T.setVm s.vm).sameButNew ({ U with vm := s.vm } : State) [] (0 + 1) (0 + 6) := ⟨e1, e2⟩
    have h3 := X.same.trans h2
    rw [List.append_nil] at h3
    exact h3.mono hc hs
  refine ⟨U, ?_, .threw T.heap.size, hrun, hend, Or.inr ⟨T.heap.size, rfl, cls, ce, locs, hx U hWs.alike f1 (fun q hq => f2 q hq (fun z hz => nomatch hz)), hce, hO.vm, hcl, hWs, hall, hf⟩⟩
  refine st1 _ ?_
  show Steps p.tables e below (T1.setTop { method := m, pc := pc + 3, locals := ls, stack := .ref T.heap.size :: rest, locked := none }) _
  jvm_step X₁.here [X₁.here.top, hexec, d3', Value.category]
  exact hsteps
/-- 'throw new E("text")': new; dup; ldc; invokespecial; athrow -/
theorem vx_throwS {cc : ByteArray} {pc : Nat} (hexec : p.tables.exec = Jvm.exec) (hb : c.code = cc) (hl : l.stackTraces = false) {own cls text : String} {names : List String} {ik is ic mc ms sa : Nat} {A : Nat → Prop}
    (hown : s.vm.findClass own = some m.cls) (hcls : Bundle.fit cls = true) (hnames : ∀ n ∈ names, Bundle.fit n = true)
    (hk : (Cond.classLink own ik cls).before args s = true) (hini : (Cond.initialized cls).before args s = true) (hstr : vk_R own is text sa s) (hat : ∀ w ∈ vx_atS own ic cls names, w.before args s = true)
    (hgood : ∀ w ∈ Cond.classLink own ik cls :: Cond.initialized cls :: vx_atS own ic cls names, vx_ot w = true)
    (hU : vx_Zq Bundle.tN "UNASSIGNED_STACK" Bundle.steD A s s.heap) (hN : vx_Zq Bundle.tN "SUPPRESSED_SENTINEL" Bundle.listD A s s.heap) (hS : va_S A s.heap H locs) (hsize : ls.size = c.maxLocals)
    (d0 : decode cc pc = .ok (.new ik, 3)) (d3 : decode cc (pc + 3) = .ok (.dup, 1)) (d4 : decode cc (pc + 4) = .ok (.ldc is, 2)) (d6 : decode cc (pc + 6) = .ok (.invokespecial ic, 3)) (d9 : decode cc (pc + 9) = .ok (.athrow, 1))
    (hout : ∀ x ∈ c.exceptionTable.toList, covers x (pc + 9) = false)
    (hRframes : names.length + 3 < R.frames) (hRlocals : (rest.map fun v => v.category).sum + (13 * (names.length + 1) + 43) ≤ R.locals) (hRcells : cells + 1 ≤ R.cells) (hRslots : slots + 6 ≤ R.slots) (hlocks : meth.locks = false)
    (hx : ∀ t : State, s.vm.Alike t.vm → H.size ≤ t.heap.size → (∀ q : Nat, q < H.size → t.heap[q]? = H[q]?) → XC cls s t)
    (hf : ∀ z ∈ locs, free z.base) (hc : cells + 1 ≤ mc) (hs : slots + 6 ≤ ms) :
    W p l e R s m args below meth c H locs cells slots (vx_MQ below Qc XC args s mc ms free) (F0 m pc ls rest) := by
  intro T hT X
  have htr : e.platform.stackTraces = false := (show e.platform.stackTraces = l.stackTraces by rw [X.admits.platform]).trans hl
  have Y := vx_rebase X (R' := { frames := R.frames, locals := R.locals, cells := 1, slots := 6 }) (Nat.le_refl _) (Nat.le_refl _) hRcells hRslots
  obtain ⟨s', hA⟩ : ∃ z, z = (T.setVm s.vm).setFrames (.invoking m args :: below) := ⟨_, rfl⟩
  rw [← hA] at Y
  have hvm : s'.vm = s.vm := by rw [hA]; rfl
  have hhp : s'.heap = H := by rw [hA]; exact hT
  have hW0 : s.WarmedH s'.vm := by rw [hvm]; exact State.WarmedH.refl s
  have hat' : ∀ w ∈ vx_atS own ic cls names, w.before args s' = true := fun w hw => vx_ot_at hW0 hvm.symm (hgood w (List.mem_cons_of_mem _ (List.mem_cons_of_mem _ hw))) (hat w hw)
  have hk' : (Cond.classLink own ik cls).before args s' = true := vx_ot_at hW0 hvm.symm (hgood _ List.mem_cons_self) hk
  have hini' : (Cond.initialized cls).before args s' = true := vx_ot_at hW0 hvm.symm (hgood _ (List.mem_cons_of_mem _ List.mem_cons_self)) hini
  have hU' : vx_Zq Bundle.tN "UNASSIGNED_STACK" Bundle.steD A s' s'.heap := by rw [hhp]; exact vx_Zq.moved hW0.alike (hU.kept hS.2.1)
  have hN' : vx_Zq Bundle.tN "SUPPRESSED_SENTINEL" Bundle.listD A s' s'.heap := by rw [hhp]; exact vx_Zq.moved hW0.alike (hN.kept hS.2.1)
  have h : ∀ w ∈ Bundle.ownAtoms own ic cls names, w.before args s' = true := vx_own hat' (vx_isRefq hU'.1) (vx_isRefq hN'.1) hU'.2.word hN'.2.word
  have hown' : s'.vm.findClass own = some m.cls := by rw [hvm]; exact hown
  have hins : (Cond.instantiable cls 6).before args s' = true := h _ (by simp [Bundle.ownAtoms])
  obtain ⟨vm₁, cX, kX, hfX, hkX, -, -, X₁, st1⟩ := Y.newCold hexec (own := own) (C := cls) (index := ik) (n := 6) hown' hk' hins hini'
    (g := F0 m pc ls rest) rfl (by rw [hb]; exact d0) (Nat.le_refl _) (Nat.le_refl _)
  generalize hT1 : (T.setVm vm₁).pushCell { cls := cX, slots := kX.instanceTypes.map defaultValue, vm := .none } = T1 at X₁ st1
  have hcat : (Value.ref T.heap.size).category = 1 := rfl
  have hcellA : T1.heap[T.heap.size]? = some (freshCell cX kX) := by rw [← hT1]; exact State.heap_pushCell_size _ _
  have d3' : decode c.code (pc + 3) = .ok (.dup, 1) := by rw [hb]; exact d3
  have d4' : decode c.code (pc + 4) = .ok (.ldc is, 2) := by rw [hb]; exact d4
  have hstr' : vk_R own is text sa s' := vk_R.warm hW0 hstr
  obtain ⟨U, hsteps, hrun, hend, hW, hsame, ce, hce, hO⟩ := X₁.ctorThrowS hexec htr (own := own) (cls := cls) (names := names) (ic := ic) hown' hcls hnames h (fun x hx => nomatch hx) hfX hkX hcellA (by rw [hhp, hT]; exact Nat.le_refl _) (msg := .ref sa) rfl
    (g := { method := m, pc := pc + 6, locals := ls, stack := .ref sa :: .ref T.heap.size :: .ref T.heap.size :: rest, locked := none }) rfl hsize rfl rfl (rest := rest) rfl
    (by rw [hb]; exact d6) (by rw [hb]; exact d9) hout hRframes (by simp only [List.map_cons, List.sum_cons, hcat]; omega) hlocks
  obtain ⟨f1, f2⟩ := vx_frame hsame
  rw [hhp] at f1 f2
  have hWs : s.WarmedH U.vm := State.WarmedH.trans hW0 hW
  have hcl : s.vm.findClass cls = some ce.cls := by
    have h9 := hO.cls
    rw [hvm] at h9
    exact h9
  have hall : s.sameButNew ({ U with vm := s.vm } : State) locs mc ms := by
    subst hA
    obtain ⟨e1, e2⟩ := hsame
    rw [State.setFrames_setFrames] at e1
    have h2 : (T.setVm s.vm).sameButNew ({ U with vm := s.vm } : State) [] (0 + 1) (0 + 6) := ⟨e1, e2⟩
    have h3 := X.same.trans h2
    rw [List.append_nil] at h3
    exact h3.mono hc hs
  refine ⟨U, ?_, .threw T.heap.size, hrun, hend, Or.inr ⟨T.heap.size, rfl, cls, ce, locs, hx U hWs.alike f1 (fun q hq => f2 q hq (fun z hz => nomatch hz)), hce, hO.vm, hcl, hWs, hall, hf⟩⟩
  refine st1 _ ?_
  show Steps p.tables e below (T1.setTop { method := m, pc := pc + 3, locals := ls, stack := .ref T.heap.size :: rest, locked := none }) _
  jvm_step X₁.here [X₁.here.top, hexec, d3', Value.category]
  exact X₁.ldcString hexec (own := own) (text := text) (index := is) (a := sa) hown' hstr'.1 hstr'.2
    (g := { method := m, pc := pc + 4, locals := ls, stack := .ref T.heap.size :: .ref T.heap.size :: rest, locked := none }) rfl d4' _ hsteps
/-- 'throw new E("text")', the text by a wide index -/
theorem vx_throwSW {cc : ByteArray} {pc : Nat} (hexec : p.tables.exec = Jvm.exec) (hb : c.code = cc) (hl : l.stackTraces = false) {own cls text : String} {names : List String} {ik is ic mc ms sa : Nat} {A : Nat → Prop}
    (hown : s.vm.findClass own = some m.cls) (hcls : Bundle.fit cls = true) (hnames : ∀ n ∈ names, Bundle.fit n = true)
    (hk : (Cond.classLink own ik cls).before args s = true) (hini : (Cond.initialized cls).before args s = true) (hstr : vk_R own is text sa s) (hat : ∀ w ∈ vx_atS own ic cls names, w.before args s = true)
    (hgood : ∀ w ∈ Cond.classLink own ik cls :: Cond.initialized cls :: vx_atS own ic cls names, vx_ot w = true)
    (hU : vx_Zq Bundle.tN "UNASSIGNED_STACK" Bundle.steD A s s.heap) (hN : vx_Zq Bundle.tN "SUPPRESSED_SENTINEL" Bundle.listD A s s.heap) (hS : va_S A s.heap H locs) (hsize : ls.size = c.maxLocals)
    (d0 : decode cc pc = .ok (.new ik, 3)) (d3 : decode cc (pc + 3) = .ok (.dup, 1)) (d4 : decode cc (pc + 4) = .ok (.ldc_w is, 3)) (d7 : decode cc (pc + 7) = .ok (.invokespecial ic, 3)) (d10 : decode cc (pc + 10) = .ok (.athrow, 1))
    (hout : ∀ x ∈ c.exceptionTable.toList, covers x (pc + 10) = false)
    (hRframes : names.length + 3 < R.frames) (hRlocals : (rest.map fun v => v.category).sum + (13 * (names.length + 1) + 43) ≤ R.locals) (hRcells : cells + 1 ≤ R.cells) (hRslots : slots + 6 ≤ R.slots) (hlocks : meth.locks = false)
    (hx : ∀ t : State, s.vm.Alike t.vm → H.size ≤ t.heap.size → (∀ q : Nat, q < H.size → t.heap[q]? = H[q]?) → XC cls s t)
    (hf : ∀ z ∈ locs, free z.base) (hc : cells + 1 ≤ mc) (hs : slots + 6 ≤ ms) :
    W p l e R s m args below meth c H locs cells slots (vx_MQ below Qc XC args s mc ms free) (F0 m pc ls rest) := by
  intro T hT X
  have htr : e.platform.stackTraces = false := (show e.platform.stackTraces = l.stackTraces by rw [X.admits.platform]).trans hl
  have Y := vx_rebase X (R' := { frames := R.frames, locals := R.locals, cells := 1, slots := 6 }) (Nat.le_refl _) (Nat.le_refl _) hRcells hRslots
  obtain ⟨s', hA⟩ : ∃ z, z = (T.setVm s.vm).setFrames (.invoking m args :: below) := ⟨_, rfl⟩
  rw [← hA] at Y
  have hvm : s'.vm = s.vm := by rw [hA]; rfl
  have hhp : s'.heap = H := by rw [hA]; exact hT
  have hW0 : s.WarmedH s'.vm := by rw [hvm]; exact State.WarmedH.refl s
  have hat' : ∀ w ∈ vx_atS own ic cls names, w.before args s' = true := fun w hw => vx_ot_at hW0 hvm.symm (hgood w (List.mem_cons_of_mem _ (List.mem_cons_of_mem _ hw))) (hat w hw)
  have hk' : (Cond.classLink own ik cls).before args s' = true := vx_ot_at hW0 hvm.symm (hgood _ List.mem_cons_self) hk
  have hini' : (Cond.initialized cls).before args s' = true := vx_ot_at hW0 hvm.symm (hgood _ (List.mem_cons_of_mem _ List.mem_cons_self)) hini
  have hU' : vx_Zq Bundle.tN "UNASSIGNED_STACK" Bundle.steD A s' s'.heap := by rw [hhp]; exact vx_Zq.moved hW0.alike (hU.kept hS.2.1)
  have hN' : vx_Zq Bundle.tN "SUPPRESSED_SENTINEL" Bundle.listD A s' s'.heap := by rw [hhp]; exact vx_Zq.moved hW0.alike (hN.kept hS.2.1)
  have h : ∀ w ∈ Bundle.ownAtoms own ic cls names, w.before args s' = true := vx_own hat' (vx_isRefq hU'.1) (vx_isRefq hN'.1) hU'.2.word hN'.2.word
  have hown' : s'.vm.findClass own = some m.cls := by rw [hvm]; exact hown
  have hins : (Cond.instantiable cls 6).before args s' = true := h _ (by simp [Bundle.ownAtoms])
  obtain ⟨vm₁, cX, kX, hfX, hkX, -, -, X₁, st1⟩ := Y.newCold hexec (own := own) (C := cls) (index := ik) (n := 6) hown' hk' hins hini'
    (g := F0 m pc ls rest) rfl (by rw [hb]; exact d0) (Nat.le_refl _) (Nat.le_refl _)
  generalize hT1 : (T.setVm vm₁).pushCell { cls := cX, slots := kX.instanceTypes.map defaultValue, vm := .none } = T1 at X₁ st1
  have hcat : (Value.ref T.heap.size).category = 1 := rfl
  have hcellA : T1.heap[T.heap.size]? = some (freshCell cX kX) := by rw [← hT1]; exact State.heap_pushCell_size _ _
  have d3' : decode c.code (pc + 3) = .ok (.dup, 1) := by rw [hb]; exact d3
  have d4' : decode c.code (pc + 4) = .ok (.ldc_w is, 3) := by rw [hb]; exact d4
  have hstr' : vk_R own is text sa s' := vk_R.warm hW0 hstr
  obtain ⟨U, hsteps, hrun, hend, hW, hsame, ce, hce, hO⟩ := X₁.ctorThrowS hexec htr (own := own) (cls := cls) (names := names) (ic := ic) hown' hcls hnames h (fun x hx => nomatch hx) hfX hkX hcellA (by rw [hhp, hT]; exact Nat.le_refl _) (msg := .ref sa) rfl
    (g := { method := m, pc := pc + 7, locals := ls, stack := .ref sa :: .ref T.heap.size :: .ref T.heap.size :: rest, locked := none }) rfl hsize rfl rfl (rest := rest) rfl
    (by rw [hb]; exact d7) (by rw [hb]; exact d10) hout hRframes (by simp only [List.map_cons, List.sum_cons, hcat]; omega) hlocks
  obtain ⟨f1, f2⟩ := vx_frame hsame
  rw [hhp] at f1 f2
  have hWs : s.WarmedH U.vm := State.WarmedH.trans hW0 hW
  have hcl : s.vm.findClass cls = some ce.cls := by
    have h9 := hO.cls
    rw [hvm] at h9
    exact h9
  have hall : s.sameButNew ({ U with vm := s.vm } : State) locs mc ms := by
    subst hA
    obtain ⟨e1, e2⟩ := hsame
    rw [State.setFrames_setFrames] at e1
    have h2 : (T.setVm s.vm).sameButNew ({ U with vm := s.vm } : State) [] (0 + 1) (0 + 6) := ⟨e1, e2⟩
    have h3 := X.same.trans h2
    rw [List.append_nil] at h3
    exact h3.mono hc hs
  refine ⟨U, ?_, .threw T.heap.size, hrun, hend, Or.inr ⟨T.heap.size, rfl, cls, ce, locs, hx U hWs.alike f1 (fun q hq => f2 q hq (fun z hz => nomatch hz)), hce, hO.vm, hcl, hWs, hall, hf⟩⟩
  refine st1 _ ?_
  show Steps p.tables e below (T1.setTop { method := m, pc := pc + 3, locals := ls, stack := .ref T.heap.size :: rest, locked := none }) _
  jvm_step X₁.here [X₁.here.top, hexec, d3', Value.category]
  exact X₁.ldcStringW hexec (own := own) (text := text) (index := is) (a := sa) hown' hstr'.1 hstr'.2
    (g := { method := m, pc := pc + 4, locals := ls, stack := .ref T.heap.size :: .ref T.heap.size :: rest, locked := none }) rfl d4' _ hsteps
end Ends
section Bodies
variable {l : Launch}
theorem vx_ofW {y : MethodName} {ws ws' : List Cond} {rm : Room} {Pc : Array Value → State → Prop} {Qc : Array Value → State → Outcome → State → Prop} {XC : String → State → State → Prop} {mc ms : Nat} {free : Addr → Prop} {cc : ByteArray} {maxL : Nat} {ret : Option FieldType}
    (hy : plainName y.cls = true) (hw : ws = Cond.code y cc maxL ret :: ws')
    (body : ∀ p e s m args below meth c s₁, BodyLoose p l y (headSpec ws rm) cc maxL ret e s m args below meth c s₁ → c.maxLocals = maxL → (∀ x ∈ c.exceptionTable.toList, False) → Pc args s →
      W p l e (headSpec ws rm).room s m args below meth c s.heap [] 0 0 (vx_MQ below Qc XC args s mc ms free) (entryFrame m args maxL)) : vx_Met l y ws rm Pc Qc XC mc ms free := by
  refine MetFree.of_bodyS (code := cc) (maxLocals := maxL) (ret := ret) hy ?_ ?_
  · intro args s m h hn
    obtain ⟨meth, c, h1, h2, h3, h4, h5, h6, -, -⟩ := Cond.code_spec hn (atoms_spec (ws := ws) h _ (by rw [hw]; exact List.mem_cons_self))
    exact ⟨meth, c, h1, h2, h3, h4, h5, h6⟩
  · intro p e s m args below meth c s₁ B hml hP _
    have hh0 : s₁.heap = s.heap := by rw [B.state]; rfl
    have ht : ∀ x ∈ c.exceptionTable.toList, False := by
      obtain ⟨meth9, c9, h1, h2, -, -, -, -, h7, -⟩ := Cond.code_spec B.named (atoms_spec (ws := ws) B.pre _ (by rw [hw]; exact List.mem_cons_self))
      cases Option.some.inj (h1.symm.trans B.method)
      cases Option.some.inj (h2.symm.trans (Stand.of_body B).code)
      intro x hx
      rw [Array.isEmpty_iff.mp h7] at hx
      cases hx
    obtain ⟨t, a1, o, b1, b2, b3⟩ := body p e s m args below meth c s₁ B hml ht hP s₁ hh0 (Stand.of_body B)
    exact ⟨t, o, a1, b1, b2, b3⟩
/-- the table of a body with handlers -/
theorem vx_table {p : Program} {x y : MethodName} {S : Spec} {cc bytes : ByteArray} {maxL maxL' : Nat} {ret ret' : Option FieldType} {e : Env} {s s₁ : State} {m : MethodId} {args : Array Value} {below : List Frame} {meth : Method} {c : Code} {hh : List (Nat × Nat × Nat × Nat)}
    (B : BodyLoose p l y S cc maxL ret e s m args below meth c s₁) (h : (Cond.codeWith y bytes maxL' ret' hh).before args s = true) : c.exceptionTable.toList = tableOf hh := by
  obtain ⟨m9, meth9, c9, hn9, h1, h2, -, -, h6, -⟩ := Cond.codeWith_spec h
  cases Option.some.inj (hn9.symm.trans B.named)
  cases Option.some.inj (h1.symm.trans B.method)
  cases Option.some.inj (h2.symm.trans (Stand.of_body B).code)
  rw [← h6, table_eq]
end Bodies
end VXA
/-! ===== END ===== -/
/-! ===== BEGIN a static call of a method with an exception table ===== -/
section VXS
variable {p : Program} {l : Launch} {e : Env} {R : Room} {s : State} {m : MethodId} {args : Array Value} {below : List Frame} {meth : Method} {c : Code} {T : State} {H : Heap} {locs : List Loc} {cells slots : Nat}
abbrev vx_CSW (R : Room) (s : State) (args : Array Value) (own : String) (index : Nat) (y : MethodName) (bytes : ByteArray) (maxL : Nat) (ret : Option FieldType) (hh : List (Nat × Nat × Nat × Nat)) (ws : List Cond) (rm : Room) (mc ms n : Nat) : Prop :=
  (rm.cells = mc ∧ rm.slots = ms ∧ rm.frames + 1 ≤ R.frames ∧ 8 + (maxL + 11) + rm.locals ≤ R.locals ∧ (∀ w ∈ ws, ∀ (a' : Array Value) (U : State), s.WarmedH U.vm → w.before a' U = true) ∧ Cond.codeWith y bytes maxL ret hh ∈ ws) ∧
  (Cond.codeWith y bytes maxL ret hh).before args s = true ∧ (Cond.initialized y.cls).before args s = true ∧ (y.cls ≠ "java/lang/invoke/MethodHandle" ∧ y.cls ≠ "java/lang/invoke/VarHandle") ∧
  (∀ sig, parseMethodDescriptor y.desc = some sig → n = sig.parameters.length) ∧ (Cond.methodLink own index y).before args s = true ∧ (Cond.static y).before args s = true
theorem vx_cwSW {own : String} {index maxL mc ms : Nat} {y : MethodName} {bytes : ByteArray} {ret : Option FieldType} {hh : List (Nat × Nat × Nat × Nat)} {Ts ws ws' : List Cond} {rm : Room} (n : Nat) (ht : ∀ w ∈ Ts, w.before args s = true) (hT : GoodIn Ts (va_wsS own index y ws)) (hw : ws = Cond.codeWith y bytes maxL ret hh :: ws') (hrc : rm.cells = mc) (hrs : rm.slots = ms)
    (hd : y.cls ≠ "java/lang/invoke/MethodHandle" ∧ y.cls ≠ "java/lang/invoke/VarHandle" ∧ (parseMethodDescriptor y.desc).map (fun d => d.parameters.length) = some n) (hR : rm.frames + 1 ≤ R.frames ∧ 8 + (maxL + 11) + rm.locals ≤ R.locals) :
    vx_CSW R s args own index y bytes maxL ret hh ws rm mc ms n := by
  have ok : ∀ w ∈ va_wsS own index y ws, w.before args s = true := fun w h => ht w (hT w h).1
  have hG : GoodIn Ts ws := fun w h => hT w (by unfold va_wsS; exact List.mem_append_right _ h)
  have hc : Cond.codeWith y bytes maxL ret hh ∈ ws := by rw [hw]; exact List.mem_cons_self
  refine ⟨⟨hrc, hrs, hR.1, hR.2, pay_in ht hG, hc⟩, ht _ (hG _ hc).1, ok _ (by simp [va_wsS]), ⟨hd.1, hd.2.1⟩, fun sig h => ?_, ok _ (by simp [va_wsS]), ok _ (by simp [va_wsS])⟩
  have h2 := hd.2.2
  rw [h] at h2
  exact (Option.some.inj h2).symm
theorem vx_callSW (X : Stand p l e R s m args below meth c T locs cells slots) (hexec : p.tables.exec = Jvm.exec) {own : String} {index : Nat} {y : MethodName} {bytes : ByteArray} {maxL : Nat} {ret : Option FieldType} {hh : List (Nat × Nat × Nat × Nat)}
    (hown : s.vm.findClass own = some m.cls) (hlink : (Cond.methodLink own index y).before args s = true) (hstat : (Cond.static y).before args s = true) (hinit : (Cond.initialized y.cls).before args s = true)
    (hcode : (Cond.codeWith y bytes maxL ret hh).before args s = true) (hy : y.cls ≠ "java/lang/invoke/MethodHandle" ∧ y.cls ≠ "java/lang/invoke/VarHandle")
    {W9 : Nat} {Pre : Pt → Array Value → Prop} {Post : Pt → Array Value → Option Value → Pt → Prop} (hK : Back l R p e below s args y 3 W9 Pre Post)
    {g : JFrame} (hg : g.method = m) (hsize : g.locals.size = c.maxLocals) {argsL rest : List Value} (hlen : ∀ sig, parseMethodDescriptor y.desc = some sig → argsL.length = sig.parameters.length)
    (hstack : g.stack = argsL.reverse ++ rest) (hW : 2 * g.monitorRoom + (rest.map fun v => v.category).sum ≤ W9) (hdg : decode c.code g.pc = .ok (.invokestatic index, 3))
    (hpre : ∀ vm₁, s.WarmedH vm₁ → Pre ⟨T.setVm vm₁, locs, cells, slots⟩ argsL.toArray) :
    ∃ (v : Option Value) (vm₁ : Vm) (B : Pt), s.WarmedH vm₁ ∧ Stand p l e R s m args below meth c B.U B.locs B.cells B.slots ∧ Post ⟨T.setVm vm₁, locs, cells, slots⟩ argsL.toArray v B ∧
      ∀ target, Steps p.tables e below (B.U.setTop { g with pc := g.pc + 3, stack := v.toList ++ rest }) target → Steps p.tables e below (T.setTop g) target := by
  obtain ⟨mk, methM, cM, hnamed, hmethM, -, -, -, -, -, -, hsigM⟩ := Cond.codeWith_spec hcode
  have hstatic : methM.isStatic = true := Cond.static_spec hnamed hmethM hstat
  obtain ⟨kP, hkP, -⟩ := className_of_methodNamed hnamed
  have hinitP : kP.init = .initialized := Cond.initialized_spec (findClass_of_methodNamed hnamed) hkP hinit
  obtain ⟨vm₁, X₁, hstep₁⟩ := X.invokestatic hexec hown hlink hnamed hmethM hstatic hkP hinitP hy (g := g) hg (argsL := argsL) (rest := rest) (hlen _ hsigM) hstack hdg
  obtain ⟨v, B, X', hpost, hsteps⟩ := hK m meth c ⟨T.setVm vm₁, locs, cells, slots⟩ { g with stack := rest } (.invokestatic index) mk argsL.toArray X₁ hg hsize hdg hW (X₁.named hnamed) (hpre vm₁ X₁.warmed)
  exact ⟨v, vm₁, B, X₁.warmed, X', hpost, fun target h => hstep₁ _ fun acts => by rw [doInvoke_state]; exact hsteps.trans h⟩
theorem vx_runSW {y : MethodName} {bytes cc : ByteArray} {maxL nL mc ms n index : Nat} {ret : Option FieldType} {hh : List (Nat × Nat × Nat × Nat)} {ws : List Cond} {rm : Room} {Pc : Array Value → State → Prop} {Qc : Array Value → State → Outcome → State → Prop} {free : Addr → Prop} {Ts : List Cond} {own : String} {As rest : List Value} {g : JFrame}
    (S : CallFix p m c cc nL s args Ts own) (hM : Met l y ws rm Pc Qc mc ms free) (cw : vx_CSW R s args own index y bytes maxL ret hh ws rm mc ms n) (hp : PreS s H Pc As)
    (hg : g.method = m) (hn : As.length = n) (hsize : g.locals.size = nL) (hstack : g.stack = As.reverse ++ rest) (hW : 2 * g.monitorRoom + (rest.map fun v => v.category).sum ≤ 8) (hdg : decode cc g.pc = .ok (.invokestatic index, 3)) (hf : cells + mc ≤ R.cells ∧ slots + ms ≤ R.slots) :
    va_Run p l e R s m args below meth c H locs cells slots mc ms g rest (Qc As.toArray) (free) := by
  obtain ⟨⟨hrc, hrs, hfr, hlo, hws, hcw⟩, hcode, hini, hy, hlen, hl, hstt⟩ := cw
  have hK : Back l R p e below s args y 3 8 (PreOf R mc ms Pc) (PostOf Qc mc ms free) := va_backW (hh := hh) (bytes := bytes) (maxL := maxL) (ret := ret) hM hp.1 hrc hrs hfr hlo hws hcw (fun a' U hW => word_at hW (Or.inl (by first | rfl | simp [Cond.onTables, Cond.keeps, Cond.steady])) hini)
  obtain ⟨hx, hb, hml, ho, -⟩ := S
  intro T hT X
  obtain ⟨v, vm₁, ⟨U', l2, c2, s2⟩, hW₁, X', ⟨g', mk, t, L, e1, e2, hq, h1, hL, h2, h3⟩, st⟩ := vx_callSW X hx (hh := hh) (bytes := bytes) (maxL := maxL) (ret := ret) ho hl hstt hini hcode hy hK hg (hsize.trans hml.symm) (argsL := As) (rest := rest) (fun sig h => hn.trans (hlen sig h)) hstack hW (by rw [hb]; exact hdg)
    (fun vm₁ hW₁ => ⟨hf.1, hf.2, hp.2 (T.setVm vm₁) hT hW₁⟩)
  dsimp only [Pt.U, Pt.locs, Pt.cells, Pt.slots] at X' e1 e2 h1 h2 h3 st
  subst h1; subst h2; subst h3
  exact ⟨v, (T.setVm vm₁).calling g' mk As.toArray, t, U', L, hT, X', hL, e1, e2, hq, st⟩
/-- not caught here, past rows that name other classes: it goes on to the caller -/
theorem vx_outP {p : Program} {l : Launch} {e : Env} {R : Room} {s : State} {m : MethodId} {args : Array Value} {below : List Frame} {meth : Method} {c : Code} {H : Heap} {locs : List Loc} {cells slots : Nat} {free : Addr → Prop} {ls : Array Slot} {rest : List Value} {Qc : Array Value → State → Outcome → State → Prop} {XC : String → State → State → Prop}
    {pc : Nat} {own E : String} {ce : Cell} {q : Addr} {mc ms : Nat} (hown : s.vm.findClass own = some m.cls) (hlocks : meth.locks = false)
    (hpass : ∀ z ∈ c.exceptionTable.toList, covers z pc = false ∨ (z.catchType ≠ 0 ∧ ∃ nm : String, (Cond.classLink own z.catchType nm).before args s = true ∧ va_Nc E nm s)) (hcell : H[q]? = some ce) (hv : ce.vm = .none) (hcl : s.vm.findClass E = some ce.cls)
    (hx : ∀ t : State, t.heap = H → s.vm.Alike t.vm → XC E s t) (hf : ∀ z ∈ locs, free z.base) (hc : cells ≤ mc) (hs : slots ≤ ms) :
    vx_W p l e R s m args below meth c H locs cells slots (vx_MQ below Qc XC args s mc ms free) (F0 m pc ls rest) q := by
  intro T hT X
  have hpl : e.platform.magicAccessors = ({} : Platform).magicAccessors := by rw [X.admits.platform]
  obtain ⟨vm', hW', X', st⟩ := X.outThrough hlocks q (g := F0 m pc ls rest) rfl rfl rfl (cell := ce) (by rw [hT]; exact hcell) (by rw [hv]; rfl)
    (by obtain ⟨k9, h9, -⟩ := Vm.findClass_spec hcl; exact ⟨k9, h9⟩) (fun z hz => by
      rcases hpass z hz with h | ⟨hz0, nm, hl1, hn1⟩
      · exact Or.inl h
      · obtain ⟨c6, hc6, hcl6⟩ := Cond.classLink_spec hown hl1 e.platform hpl
        obtain ⟨a8, b8, h1, h2, h3⟩ := hn1
        cases Option.some.inj (h1.symm.trans hcl)
        cases Option.some.inj (h2.symm.trans hc6)
        exact Or.inr ⟨hz0, _, hcl6, h3⟩)
  obtain ⟨g₀, hfr⟩ := X'.frames_eq
  have hcell9 : ((T.setVm vm').setFrames (.throwing q :: below)).heap[q]? = some ce := by
    show T.heap[q]? = some ce
    rw [hT]; exact hcell
  have hend : Ended ((T.setVm vm').setFrames (.throwing q :: below)) below (.threw q) := State.frames_setFrames _ (State.cur_lt_of_frames hfr)
  refine ⟨(T.setVm vm').setFrames (.throwing q :: below), ?_, .threw q, X'.here.running, hend, Or.inr ⟨q, rfl, E, ce, locs, hx _ hT (X'.ends _).1.alike, hcell9, hv, hcl, (X'.ends _).1, (X'.ends _).2.mono hc hs, hf⟩⟩
  rw [X.pushThrowing_eq]
  exact st
/-- a thing of a world lies in the heap -/
theorem vx_lt {D : va_G} {cl : List vw_C} {ws : va_W} {H1 : Heap} (h : va_P D cl ws H1) {k : Nat} {q : Nat × va_E} (hk : ws[k]? = some q) : q.1 < H1.size := (h k q hk).lt
end VXS
/-! ===== END ===== -/
/-! ===== BEGIN methods with a table of their own: called by a name, returning or throwing ===== -/
section VXH
/-! vx_backW, vx_callVX, vx_callSX, vx_callVW, vx_runVW, vx_runVX, vx_runSX, vx_ofWH follow the same proofs as their sisters above (Free/Laws.lean, Shelf42/LK1.lean); vx_outP calls Shelf42/NT130.lean (outThrough). -/
section
variable {l : Launch} {R : Room} {p : Program} {e : Env} {below : List Frame} {s : State} {sargs : Array Value} {y : MethodName} {len W9 : Nat}
theorem vx_backW {ws : List Cond} {rm : Room} {Pc : Array Value → State → Prop} {Qc : Array Value → State → Outcome → State → Prop} {XC : String → State → State → Prop} {mc ms : Nat} {free : Addr → Prop} {bytes : ByteArray} {maxL : Nat} {ret : Option FieldType} {hh : List (Nat × Nat × Nat × Nat)}
    (hM : vx_Met l y ws rm Pc Qc XC mc ms free) (hblind : FrameBlind Pc) (hrc : rm.cells = mc) (hrs : rm.slots = ms)
    (hframes : rm.frames + 1 ≤ R.frames) (hlocals : W9 + (maxL + 11) + rm.locals ≤ R.locals)
    (hws : ∀ w ∈ ws, ∀ a' U, s.WarmedH U.vm → w.before a' U = true) (hcode : Cond.codeWith y bytes maxL ret hh ∈ ws) (hinit : ∀ a' U, s.WarmedH U.vm → (Cond.initialized y.cls).before a' U = true) :
    vx_Back l R p e below s sargs y len W9 (PreOf R mc ms Pc) (PostOf Qc mc ms free) (vx_Post XC mc ms free) := by
  intro m meth c A g ig mk a X hg hsize hdg hW hn hp
  have h1 : (headSpec ws rm).pre.before a A.U = true := atoms_intro fun w hw => hws w hw _ _ X.warmed
  have h2 : (Cond.codeWith y bytes maxL ret hh).before a A.U = true := hws _ hcode _ _ X.warmed
  have h3 : (Cond.initialized y.cls).before a A.U = true := hinit _ _ X.warmed
  have h4 : A.cells + (headSpec ws rm).room.cells ≤ R.cells := by rw [show (headSpec ws rm).room.cells = mc from hrc]; exact hp.1
  have h5 : A.slots + (headSpec ws rm).room.slots ≤ R.slots := by rw [show (headSpec ws rm).room.slots = ms from hrs]; exact hp.2.1
  have hPc : Pc a (A.U.calling g mk a) := hblind _ _ _ _ hp.2.2
  obtain ⟨U, Ls, c0, s0⟩ := A
  dsimp only [Pt.U, Pt.locs, Pt.cells, Pt.slots] at h1 h2 h3 h4 h5 X hn hPc ⊢
  obtain ⟨m9, methY, cY, hn9, hmY, hcY, -, hlY, -⟩ := Cond.codeWith_spec h2
  cases Option.some.inj (hn9.symm.trans hn)
  obtain ⟨kY, hkY, -⟩ := className_of_methodNamed hn
  have hinitY : kY.init = .initialized := Cond.initialized_spec (findClass_of_methodNamed hn) hkY h3
  have h : At U g.method c below := by rw [hg]; exact X.here
  have hlocals9 : W9 + (maxL + 11) + (headSpec ws rm).room.locals ≤ R.locals := hlocals
  have happ : (headSpec ws rm).appliesLoose y e.platform (U.calling g mk a) = true :=
    Spec.appliesLoose_calling (g := g) h hdg hn hkY hinitY
      (X.room_calling (g := g) (R' := (headSpec ws rm).room) hsize hmY hcY hframes (by rw [hlY]; omega) h4 h5) h1
  obtain ⟨mid, hmid⟩ := h.above
  have hfr : (U.setTop g).frames = (.java g :: mid) ++ below := by rw [State.frames_setTop' g h.top, hmid]; rfl
  obtain ⟨o, s₂, hsteps, -, hend, hq⟩ := Steps.callFree hM p X.admits X.cas X.clock (acts := []) hfr happ hPc trivial
  have hq' : vx_Q Qc XC mc ms free a (U.calling g mk a) o s₂ := hq
  rw [State.frames_setTop' g h.top] at hend
  obtain ⟨g₀, hg0⟩ := Option.isSome_iff_exists.mp h.top
  obtain ⟨r, hr⟩ := State.topJava?_eq_some.mp hg0
  have hr' : (({ U with heap := s₂.heap, slotsUsed := s₂.slotsUsed } : State).setVm s₂.vm).frames = .java g₀ :: r := hr
  rcases hq' with ⟨hqc, L, hfe, hL⟩ | ⟨q, rfl, E, ce, L, hx, hce, hcv, hcl, hW₂, hsm, hL⟩
  · obtain ⟨⟨v, rfl⟩, hW₂, e2, q2, q3, q4, q5, q6⟩ := id hfe
    have e3 : s₂ = ({ (U.calling g mk a).setFrames s₂.frames with heap := s₂.heap, slotsUsed := s₂.slotsUsed } : State).setVm s₂.vm := by
      have : s₂ = ({ s₂ with vm := (U.calling g mk a).vm } : State).setVm s₂.vm := rfl
      rw [e2] at this
      exact this
    obtain ⟨c₂, i₂, len₂, hc₂, hd₂, hf₂⟩ := hend
    have hW' : U.WarmedH s₂.vm := hW₂
    have hcc : c₂ = c := by
      have h1 : s₂.code? g.method = U.code? g.method := by
        rw [State.code?_eq, State.code?_eq, hW'.alike.method?]
      exact Option.some.inj (hc₂.symm.trans (h1.trans h.code))
    subst hcc
    have hlen : len₂ = len := by rw [hdg] at hd₂; cases hd₂; rfl
    subst hlen
    have hs₂ : s₂ = (({ U with heap := s₂.heap, slotsUsed := s₂.slotsUsed } : State).setVm s₂.vm).setTop { g with pc := g.pc + len₂, stack := v.toList ++ g.stack } := by
      refine e3.trans ?_
      rw [hf₂, State.calling_eq h.top, State.setFrames_setFrames, State.setTop_of_frames _ hr', hr]
      rfl
    have hsame : U.sameButNew ({ U with heap := s₂.heap, slotsUsed := s₂.slotsUsed } : State) L mc ms := by
      refine ⟨?_, q2, q3, q4, q5, q6⟩
      obtain ⟨t, ht, -⟩ := State.frames_cons hr
      show ({ U with heap := s₂.heap, slotsUsed := s₂.slotsUsed } : State) = { U.setFrames U.frames with heap := s₂.heap, slotsUsed := s₂.slotsUsed }
      rw [State.setFrames_self ht]
    subst hg
    refine Or.inl ⟨v, ⟨(({ U with heap := s₂.heap, slotsUsed := s₂.slotsUsed } : State).setVm s₂.vm), Ls ++ L, c0 + mc, s0 + ms⟩,
      ⟨X.admits, X.cas, X.clock, X.frames, X.room, X.hears, X.method, X.code, (X.here.setHeapUsed s₂.heap s₂.slotsUsed).setVm hW'.alike, X.tail, State.WarmedH.trans X.warmed hW', X.limits, X.bytes, X.same.trans (hsame.setVm s.vm)⟩,
      ⟨g, mk, s₂, L, rfl, rfl, hqc, rfl, hL, rfl, rfl⟩, ?_⟩
    show Steps p.tables e below _ ((({ U with heap := s₂.heap, slotsUsed := s₂.slotsUsed } : State).setVm s₂.vm).setTop { g with pc := g.pc + len₂, stack := v.toList ++ g.stack })
    rw [← hs₂]
    exact hsteps
  · obtain ⟨e2, q2, q3, q4, q5, q6⟩ := id hsm
    have e3 : s₂ = ({ (U.calling g mk a).setFrames s₂.frames with heap := s₂.heap, slotsUsed := s₂.slotsUsed } : State).setVm s₂.vm := by
      have : s₂ = ({ s₂ with vm := (U.calling g mk a).vm } : State).setVm s₂.vm := rfl
      rw [e2] at this
      exact this
    have hf₂ : s₂.frames = .throwing q :: .java g :: U.frames.tail := hend
    have hW' : U.WarmedH s₂.vm := hW₂
    have hs₂ : s₂ = ((({ U with heap := s₂.heap, slotsUsed := s₂.slotsUsed } : State).setVm s₂.vm).setTop g).pushFrame (.throwing q) := by
      refine e3.trans ?_
      rw [hf₂, State.calling_eq h.top, State.setFrames_setFrames, State.pushFrame, State.frames_setTop _ hr', State.setTop_of_frames _ hr', State.setFrames_setFrames, hr]
      rfl
    have hsame : U.sameButNew ({ U with heap := s₂.heap, slotsUsed := s₂.slotsUsed } : State) L mc ms := by
      refine ⟨?_, q2, q3, q4, q5, q6⟩
      obtain ⟨t, ht, -⟩ := State.frames_cons hr
      show ({ U with heap := s₂.heap, slotsUsed := s₂.slotsUsed } : State) = { U.setFrames U.frames with heap := s₂.heap, slotsUsed := s₂.slotsUsed }
      rw [State.setFrames_self ht]
    subst hg
    refine Or.inr ⟨q, ⟨(({ U with heap := s₂.heap, slotsUsed := s₂.slotsUsed } : State).setVm s₂.vm), Ls ++ L, c0 + mc, s0 + ms⟩,
      ⟨X.admits, X.cas, X.clock, X.frames, X.room, X.hears, X.method, X.code, (X.here.setHeapUsed s₂.heap s₂.slotsUsed).setVm hW'.alike, X.tail, State.WarmedH.trans X.warmed hW', X.limits, X.bytes, X.same.trans (hsame.setVm s.vm)⟩,
      ⟨g, mk, s₂, L, E, ce, rfl, rfl, hx, hce, hcv, hcl, rfl, hL, rfl, rfl⟩, ?_⟩
    show Steps p.tables e below _ (((({ U with heap := s₂.heap, slotsUsed := s₂.slotsUsed } : State).setVm s₂.vm).setTop g).pushFrame (.throwing q))
    rw [← hs₂]
    exact hsteps
end
variable {p : Program} {l : Launch} {e : Env} {R : Room} {s : State} {m : MethodId} {args : Array Value} {below : List Frame} {meth : Method} {c : Code} {T : State} {H : Heap} {locs : List Loc} {cells slots : Nat}
theorem vx_callVX (X : Stand p l e R s m args below meth c T locs cells slots) (hexec : p.tables.exec = Jvm.exec) {own C : String} {index : Nat} {y : MethodName} {bytes : ByteArray} {maxL : Nat} {ret : Option FieldType} {hh : List (Nat × Nat × Nat × Nat)}
    (hown : s.vm.findClass own = some m.cls) (hlink : (Cond.methodLink own index y).before args s = true) (hinst : (Cond.instanceMethod y).before args s = true) (hsel : (Cond.selects C y y).before args s = true)
    (hcode : (Cond.codeWith y bytes maxL ret hh).before args s = true) (hy : y.cls ≠ "java/lang/invoke/MethodHandle" ∧ y.cls ≠ "java/lang/invoke/VarHandle")
    {W9 : Nat} {Pre : Pt → Array Value → Prop} {Post : Pt → Array Value → Option Value → Pt → Prop} {PostX : Pt → Array Value → Addr → Pt → Prop} (hK : vx_Back l R p e below s args y 3 W9 Pre Post PostX)
    {b : Addr} {cellB : Cell} (hcell : T.heap[b]? = some cellB) (hobj : cellB.vm.isStatics = false) (hcls : s.vm.findClass C = some cellB.cls)
    {g : JFrame} (hg : g.method = m) (hsize : g.locals.size = c.maxLocals) {argsL rest : List Value} (hlen : ∀ sig, parseMethodDescriptor y.desc = some sig → argsL.length = sig.parameters.length)
    (hstack : g.stack = argsL.reverse ++ .ref b :: rest) (hW : 2 * g.monitorRoom + (rest.map fun v => v.category).sum ≤ W9) (hdg : decode c.code g.pc = .ok (.invokevirtual index, 3))
    (hpre : ∀ vm₁, s.WarmedH vm₁ → Pre ⟨T.setVm vm₁, locs, cells, slots⟩ (Value.ref b :: argsL).toArray) :
    (∃ (v : Option Value) (vm₁ : Vm) (B : Pt), s.WarmedH vm₁ ∧ Stand p l e R s m args below meth c B.U B.locs B.cells B.slots ∧ Post ⟨T.setVm vm₁, locs, cells, slots⟩ (Value.ref b :: argsL).toArray v B ∧
      ∀ target, Steps p.tables e below (B.U.setTop { g with pc := g.pc + 3, stack := v.toList ++ rest }) target → Steps p.tables e below (T.setTop g) target) ∨
    (∃ (q : Addr) (vm₁ : Vm) (B : Pt), s.WarmedH vm₁ ∧ Stand p l e R s m args below meth c B.U B.locs B.cells B.slots ∧ PostX ⟨T.setVm vm₁, locs, cells, slots⟩ (Value.ref b :: argsL).toArray q B ∧
      Steps p.tables e below (T.setTop g) ((B.U.setTop { g with stack := rest }).pushFrame (.throwing q))) := by
  obtain ⟨mk, methM, hnamed, hmethM, hstM, habM⟩ := Cond.instanceMethod_spec hinst
  obtain ⟨m8, methM', cM, hn8, hmethM', -, -, -, -, -, -, hsigM⟩ := Cond.codeWith_spec hcode
  cases Option.some.inj (hn8.symm.trans hnamed)
  cases hmethM.symm.trans hmethM'
  obtain ⟨c2, r2, m2, q1, q2, q3, q4, kP, hkP, hkPi⟩ := Cond.selects_spec hsel
  cases hcls.symm.trans q1
  cases (State.methodFound?_of_named hnamed hy).symm.trans q2
  cases hnamed.symm.trans q3
  have hselP : selectMethod e.platform s.vm cellB.cls mk = .method mk := by rw [Launch.admits_selectMethod X.admits]; exact q4
  obtain ⟨vm₁, X₁, hstep₁⟩ := X.invokevirtual hexec hown hlink hnamed hmethM hstM hkP hkPi hy (a := b) (cell := cellB) hcell
    (fun z h => by rw [h] at hobj; cases hobj) hselP hmethM habM hkP hkPi (g := g) hg (argsL := argsL) (rest := rest) (hlen _ hsigM) hstack hdg
  rcases hK m meth c ⟨T.setVm vm₁, locs, cells, slots⟩ { g with stack := rest } (.invokevirtual index) mk (Value.ref b :: argsL).toArray X₁ hg hsize hdg hW (X₁.named hnamed) (hpre vm₁ X₁.warmed) with ⟨v, B, X', hpost, hsteps⟩ | ⟨q, B, X', hpost, hsteps⟩
  · exact Or.inl ⟨v, vm₁, B, X₁.warmed, X', hpost, fun target h => hstep₁ _ fun acts => by rw [doInvoke_state]; exact hsteps.trans h⟩
  · exact Or.inr ⟨q, vm₁, B, X₁.warmed, X', hpost, hstep₁ _ fun acts => by rw [doInvoke_state]; exact hsteps⟩
theorem vx_callSX (X : Stand p l e R s m args below meth c T locs cells slots) (hexec : p.tables.exec = Jvm.exec) {own : String} {index : Nat} {y : MethodName} {bytes : ByteArray} {maxL : Nat} {ret : Option FieldType} {hh : List (Nat × Nat × Nat × Nat)}
    (hown : s.vm.findClass own = some m.cls) (hlink : (Cond.methodLink own index y).before args s = true) (hstat : (Cond.static y).before args s = true) (hinit : (Cond.initialized y.cls).before args s = true)
    (hcode : (Cond.codeWith y bytes maxL ret hh).before args s = true) (hy : y.cls ≠ "java/lang/invoke/MethodHandle" ∧ y.cls ≠ "java/lang/invoke/VarHandle")
    {W9 : Nat} {Pre : Pt → Array Value → Prop} {Post : Pt → Array Value → Option Value → Pt → Prop} {PostX : Pt → Array Value → Addr → Pt → Prop} (hK : vx_Back l R p e below s args y 3 W9 Pre Post PostX)
    {g : JFrame} (hg : g.method = m) (hsize : g.locals.size = c.maxLocals) {argsL rest : List Value} (hlen : ∀ sig, parseMethodDescriptor y.desc = some sig → argsL.length = sig.parameters.length)
    (hstack : g.stack = argsL.reverse ++ rest) (hW : 2 * g.monitorRoom + (rest.map fun v => v.category).sum ≤ W9) (hdg : decode c.code g.pc = .ok (.invokestatic index, 3))
    (hpre : ∀ vm₁, s.WarmedH vm₁ → Pre ⟨T.setVm vm₁, locs, cells, slots⟩ argsL.toArray) :
    (∃ (v : Option Value) (vm₁ : Vm) (B : Pt), s.WarmedH vm₁ ∧ Stand p l e R s m args below meth c B.U B.locs B.cells B.slots ∧ Post ⟨T.setVm vm₁, locs, cells, slots⟩ argsL.toArray v B ∧
      ∀ target, Steps p.tables e below (B.U.setTop { g with pc := g.pc + 3, stack := v.toList ++ rest }) target → Steps p.tables e below (T.setTop g) target) ∨
    (∃ (q : Addr) (vm₁ : Vm) (B : Pt), s.WarmedH vm₁ ∧ Stand p l e R s m args below meth c B.U B.locs B.cells B.slots ∧ PostX ⟨T.setVm vm₁, locs, cells, slots⟩ argsL.toArray q B ∧
      Steps p.tables e below (T.setTop g) ((B.U.setTop { g with stack := rest }).pushFrame (.throwing q))) := by
  obtain ⟨mk, methM, cM, hnamed, hmethM, -, -, -, -, -, -, hsigM⟩ := Cond.codeWith_spec hcode
  have hstatic : methM.isStatic = true := Cond.static_spec hnamed hmethM hstat
  obtain ⟨kP, hkP, -⟩ := className_of_methodNamed hnamed
  have hinitP : kP.init = .initialized := Cond.initialized_spec (findClass_of_methodNamed hnamed) hkP hinit
  obtain ⟨vm₁, X₁, hstep₁⟩ := X.invokestatic hexec hown hlink hnamed hmethM hstatic hkP hinitP hy (g := g) hg (argsL := argsL) (rest := rest) (hlen _ hsigM) hstack hdg
  rcases hK m meth c ⟨T.setVm vm₁, locs, cells, slots⟩ { g with stack := rest } (.invokestatic index) mk argsL.toArray X₁ hg hsize hdg hW (X₁.named hnamed) (hpre vm₁ X₁.warmed) with ⟨v, B, X', hpost, hsteps⟩ | ⟨q, B, X', hpost, hsteps⟩
  · exact Or.inl ⟨v, vm₁, B, X₁.warmed, X', hpost, fun target h => hstep₁ _ fun acts => by rw [doInvoke_state]; exact hsteps.trans h⟩
  · exact Or.inr ⟨q, vm₁, B, X₁.warmed, X', hpost, hstep₁ _ fun acts => by rw [doInvoke_state]; exact hsteps⟩
theorem vx_callVW (X : Stand p l e R s m args below meth c T locs cells slots) (hexec : p.tables.exec = Jvm.exec) {own C : String} {index : Nat} {y : MethodName} {bytes : ByteArray} {maxL : Nat} {ret : Option FieldType} {hh : List (Nat × Nat × Nat × Nat)}
    (hown : s.vm.findClass own = some m.cls) (hlink : (Cond.methodLink own index y).before args s = true) (hinst : (Cond.instanceMethod y).before args s = true) (hsel : (Cond.selects C y y).before args s = true)
    (hcode : (Cond.codeWith y bytes maxL ret hh).before args s = true) (hy : y.cls ≠ "java/lang/invoke/MethodHandle" ∧ y.cls ≠ "java/lang/invoke/VarHandle")
    {W9 : Nat} {Pre : Pt → Array Value → Prop} {Post : Pt → Array Value → Option Value → Pt → Prop} (hK : Back l R p e below s args y 3 W9 Pre Post)
    {b : Addr} {cellB : Cell} (hcell : T.heap[b]? = some cellB) (hobj : cellB.vm.isStatics = false) (hcls : s.vm.findClass C = some cellB.cls)
    {g : JFrame} (hg : g.method = m) (hsize : g.locals.size = c.maxLocals) {argsL rest : List Value} (hlen : ∀ sig, parseMethodDescriptor y.desc = some sig → argsL.length = sig.parameters.length)
    (hstack : g.stack = argsL.reverse ++ .ref b :: rest) (hW : 2 * g.monitorRoom + (rest.map fun v => v.category).sum ≤ W9) (hdg : decode c.code g.pc = .ok (.invokevirtual index, 3))
    (hpre : ∀ vm₁, s.WarmedH vm₁ → Pre ⟨T.setVm vm₁, locs, cells, slots⟩ (Value.ref b :: argsL).toArray) :
    ∃ (v : Option Value) (vm₁ : Vm) (B : Pt), s.WarmedH vm₁ ∧ Stand p l e R s m args below meth c B.U B.locs B.cells B.slots ∧ Post ⟨T.setVm vm₁, locs, cells, slots⟩ (Value.ref b :: argsL).toArray v B ∧
      ∀ target, Steps p.tables e below (B.U.setTop { g with pc := g.pc + 3, stack := v.toList ++ rest }) target → Steps p.tables e below (T.setTop g) target := by
  obtain ⟨mk, methM, hnamed, hmethM, hstM, habM⟩ := Cond.instanceMethod_spec hinst
  obtain ⟨m8, methM', cM, hn8, hmethM', -, -, -, -, -, -, hsigM⟩ := Cond.codeWith_spec hcode
  cases Option.some.inj (hn8.symm.trans hnamed)
  cases hmethM.symm.trans hmethM'
  obtain ⟨c2, r2, m2, q1, q2, q3, q4, kP, hkP, hkPi⟩ := Cond.selects_spec hsel
  cases hcls.symm.trans q1
  cases (State.methodFound?_of_named hnamed hy).symm.trans q2
  cases hnamed.symm.trans q3
  have hselP : selectMethod e.platform s.vm cellB.cls mk = .method mk := by rw [Launch.admits_selectMethod X.admits]; exact q4
  obtain ⟨vm₁, X₁, hstep₁⟩ := X.invokevirtual hexec hown hlink hnamed hmethM hstM hkP hkPi hy (a := b) (cell := cellB) hcell
    (fun z h => by rw [h] at hobj; cases hobj) hselP hmethM habM hkP hkPi (g := g) hg (argsL := argsL) (rest := rest) (hlen _ hsigM) hstack hdg
  obtain ⟨v, B, X', hpost, hsteps⟩ := hK m meth c ⟨T.setVm vm₁, locs, cells, slots⟩ { g with stack := rest } (.invokevirtual index) mk (Value.ref b :: argsL).toArray X₁ hg hsize hdg hW (X₁.named hnamed) (hpre vm₁ X₁.warmed)
  exact ⟨v, vm₁, B, X₁.warmed, X', hpost, fun target h => hstep₁ _ fun acts => by rw [doInvoke_state]; exact hsteps.trans h⟩
abbrev vx_CVW (R : Room) (s : State) (args : Array Value) (own C : String) (index : Nat) (y : MethodName) (bytes : ByteArray) (maxL : Nat) (ret : Option FieldType) (hh : List (Nat × Nat × Nat × Nat)) (ws : List Cond) (rm : Room) (mc ms n : Nat) : Prop :=
  (rm.cells = mc ∧ rm.slots = ms ∧ rm.frames + 1 ≤ R.frames ∧ 8 + (maxL + 11) + rm.locals ≤ R.locals ∧ (∀ w ∈ ws, ∀ (a' : Array Value) (U : State), s.WarmedH U.vm → w.before a' U = true) ∧ Cond.codeWith y bytes maxL ret hh ∈ ws) ∧
  (Cond.codeWith y bytes maxL ret hh).before args s = true ∧ (Cond.initialized y.cls).before args s = true ∧ (y.cls ≠ "java/lang/invoke/MethodHandle" ∧ y.cls ≠ "java/lang/invoke/VarHandle") ∧
  (∀ sig, parseMethodDescriptor y.desc = some sig → n = sig.parameters.length) ∧ (Cond.methodLink own index y).before args s = true ∧ (Cond.instanceMethod y).before args s = true ∧ (Cond.selects C y y).before args s = true
theorem vx_cwVW {own C : String} {index maxL mc ms : Nat} {y : MethodName} {bytes : ByteArray} {ret : Option FieldType} {hh : List (Nat × Nat × Nat × Nat)} {Ts ws ws' : List Cond} {rm : Room} (n : Nat) (ht : ∀ w ∈ Ts, w.before args s = true) (hT : GoodIn Ts (wsV own index C y ws)) (hw : ws = Cond.codeWith y bytes maxL ret hh :: ws') (hrc : rm.cells = mc) (hrs : rm.slots = ms)
    (hd : y.cls = C ∧ y.cls ≠ "java/lang/invoke/MethodHandle" ∧ y.cls ≠ "java/lang/invoke/VarHandle" ∧ (parseMethodDescriptor y.desc).map (fun d => d.parameters.length) = some n) (hR : rm.frames + 1 ≤ R.frames ∧ 8 + (maxL + 11) + rm.locals ≤ R.locals) :
    vx_CVW R s args own C index y bytes maxL ret hh ws rm mc ms n := by
  obtain ⟨hC, hd⟩ := hd
  subst hC
  have ok : ∀ w ∈ wsV own index y.cls y ws, w.before args s = true := fun w h => ht w (hT w h).1
  have hG : GoodIn Ts ws := fun w h => hT w (by unfold wsV; exact List.mem_append_right _ h)
  have hc : Cond.codeWith y bytes maxL ret hh ∈ ws := by rw [hw]; exact List.mem_cons_self
  refine ⟨⟨hrc, hrs, hR.1, hR.2, pay_in ht hG, hc⟩, ht _ (hG _ hc).1, ok _ (by simp [wsV]), ⟨hd.1, hd.2.1⟩, fun sig h => ?_, ok _ (by simp [wsV]), ok _ (by simp [wsV]), ok _ (by simp [wsV])⟩
  have h2 := hd.2.2
  rw [h] at h2
  exact (Option.some.inj h2).symm
theorem vx_runVW {y : MethodName} {bytes cc : ByteArray} {maxL nL mc ms n index : Nat} {ret : Option FieldType} {hh : List (Nat × Nat × Nat × Nat)} {ws : List Cond} {rm : Room} {Pc : Array Value → State → Prop} {Qc : Array Value → State → Outcome → State → Prop} {free : Addr → Prop} {Ts : List Cond} {own C : String} {b : Addr} {As rest : List Value} {g : JFrame}
    (S : CallFix p m c cc nL s args Ts own) (hM : Met l y ws rm Pc Qc mc ms free) (cw : vx_CVW R s args own C index y bytes maxL ret hh ws rm mc ms n) (hp : PreV s H C b Pc As)
    (hg : g.method = m) (hn : As.length = n) (hsize : g.locals.size = nL) (hstack : g.stack = As.reverse ++ .ref b :: rest) (hW : 2 * g.monitorRoom + (rest.map fun v => v.category).sum ≤ 8) (hdg : decode cc g.pc = .ok (.invokevirtual index, 3)) (hf : cells + mc ≤ R.cells ∧ slots + ms ≤ R.slots) :
    va_Run p l e R s m args below meth c H locs cells slots mc ms g rest (Qc (Value.ref b :: As).toArray) free := by
  obtain ⟨⟨hrc, hrs, hfr, hlo, hws, hcw⟩, hcode, hini, hy, hlen, hl, hin, hse⟩ := cw
  have hK : Back l R p e below s args y 3 8 (PreOf R mc ms Pc) (PostOf Qc mc ms free) := va_backW (hh := hh) (bytes := bytes) (maxL := maxL) (ret := ret) hM hp.1 hrc hrs hfr hlo hws hcw (fun a' U hW => word_at hW (Or.inl (by first | rfl | simp [Cond.onTables, Cond.keeps, Cond.steady])) hini)
  obtain ⟨hx, hb, hml, ho, -⟩ := S
  obtain ⟨-, ⟨cellB, hcB, hoB, hclB⟩, hPc⟩ := hp
  intro T hT X
  obtain ⟨v, vm₁, ⟨U', l2, c2, s2⟩, hW₁, X', ⟨g', mk, t, L, e1, e2, hq, h1, hL, h2, h3⟩, st⟩ := vx_callVW X hx (C := C) (hh := hh) (bytes := bytes) (maxL := maxL) (ret := ret) ho hl hin hse hcode hy hK (by rw [hT]; exact hcB) hoB hclB hg (hsize.trans hml.symm) (argsL := As) (rest := rest) (fun sig h => hn.trans (hlen sig h)) hstack hW (by rw [hb]; exact hdg)
    (fun vm₁ hW₁ => ⟨hf.1, hf.2, hPc (T.setVm vm₁) hT hW₁⟩)
  dsimp only [Pt.U, Pt.locs, Pt.cells, Pt.slots] at X' e1 e2 h1 h2 h3 st
  subst h1; subst h2; subst h3
  exact ⟨v, (T.setVm vm₁).calling g' mk (Value.ref b :: As).toArray, t, U', L, hT, X', hL, e1, e2, hq, st⟩
section
variable {y : MethodName} {bytes cc : ByteArray} {maxL nL mc ms n index : Nat} {ret : Option FieldType} {ws : List Cond} {rm : Room} {Pc : Array Value → State → Prop} {Qc : Array Value → State → Outcome → State → Prop} {XC : String → State → State → Prop} {free : Addr → Prop} {Ts : List Cond} {own C : String} {b : Addr} {As rest : List Value} {g : JFrame}
theorem vx_runVX {hh : List (Nat × Nat × Nat × Nat)} (S : CallFix p m c cc nL s args Ts own) (hM : vx_Met l y ws rm Pc Qc XC mc ms free) (cw : vx_CVW R s args own C index y bytes maxL ret hh ws rm mc ms n) (hp : PreV s H C b Pc As)
    (hg : g.method = m) (hn : As.length = n) (hsize : g.locals.size = nL) (hstack : g.stack = As.reverse ++ .ref b :: rest) (hW : 2 * g.monitorRoom + (rest.map fun v => v.category).sum ≤ 8) (hdg : decode cc g.pc = .ok (.invokevirtual index, 3)) (hf : cells + mc ≤ R.cells ∧ slots + ms ≤ R.slots) :
    vx_Run p l e R s m args below meth c H locs cells slots mc ms g rest (Qc (Value.ref b :: As).toArray) XC free := by
  obtain ⟨⟨hrc, hrs, hfr, hlo, hws, hcw⟩, hcode, hini, hy, hlen, hl, hin, hse⟩ := cw
  have hK : vx_Back l R p e below s args y 3 8 (PreOf R mc ms Pc) (PostOf Qc mc ms free) (vx_Post XC mc ms free) := vx_backW (hh := hh) (bytes := bytes) (maxL := maxL) (ret := ret) hM hp.1 hrc hrs hfr hlo hws hcw (fun a' U hW => word_at hW (Or.inl (by first | rfl | simp [Cond.onTables, Cond.keeps, Cond.steady])) hini)
  obtain ⟨hx, hb, hml, ho, -⟩ := S
  obtain ⟨-, ⟨cellB, hcB, hoB, hclB⟩, hPc⟩ := hp
  intro T hT X
  rcases vx_callVX X hx (C := C) (hh := hh) (bytes := bytes) (maxL := maxL) (ret := ret) ho hl hin hse hcode hy hK (by rw [hT]; exact hcB) hoB hclB hg (hsize.trans hml.symm) (argsL := As) (rest := rest) (fun sig h => hn.trans (hlen sig h)) hstack hW (by rw [hb]; exact hdg)
    (fun vm₁ hW₁ => ⟨hf.1, hf.2, hPc (T.setVm vm₁) hT hW₁⟩) with ⟨v, vm₁, ⟨U', l2, c2, s2⟩, hW₁, X', ⟨g', mk, t, L, e1, e2, hq, h1, hL, h2, h3⟩, st⟩ | ⟨q, vm₁, ⟨U', l2, c2, s2⟩, hW₁, X', ⟨g', mk, t, L, E, ce, e1, e2, hq, hce, hcv, hcl, h1, hL, h2, h3⟩, st⟩
  · dsimp only [Pt.U, Pt.locs, Pt.cells, Pt.slots] at X' e1 e2 h1 h2 h3 st
    subst h1; subst h2; subst h3
    exact Or.inl ⟨v, (T.setVm vm₁).calling g' mk (Value.ref b :: As).toArray, t, U', L, hT, X', hL, e1, e2, hq, st⟩
  · dsimp only [Pt.U, Pt.locs, Pt.cells, Pt.slots] at X' e1 e2 h1 h2 h3 st hcl
    subst h1; subst h2; subst h3
    exact Or.inr ⟨q, (T.setVm vm₁).calling g' mk (Value.ref b :: As).toArray, t, U', L, E, ce, hT, X', hL, e1, e2, hq, hce, hcv, vx_cls hW₁ hcl, st⟩
theorem vx_runSX {hh : List (Nat × Nat × Nat × Nat)} (S : CallFix p m c cc nL s args Ts own) (hM : vx_Met l y ws rm Pc Qc XC mc ms free) (cw : vx_CSW R s args own index y bytes maxL ret hh ws rm mc ms n) (hp : PreS s H Pc As)
    (hg : g.method = m) (hn : As.length = n) (hsize : g.locals.size = nL) (hstack : g.stack = As.reverse ++ rest) (hW : 2 * g.monitorRoom + (rest.map fun v => v.category).sum ≤ 8) (hdg : decode cc g.pc = .ok (.invokestatic index, 3)) (hf : cells + mc ≤ R.cells ∧ slots + ms ≤ R.slots) :
    vx_Run p l e R s m args below meth c H locs cells slots mc ms g rest (Qc As.toArray) XC free := by
  obtain ⟨⟨hrc, hrs, hfr, hlo, hws, hcw⟩, hcode, hini, hy, hlen, hl, hstt⟩ := cw
  have hK : vx_Back l R p e below s args y 3 8 (PreOf R mc ms Pc) (PostOf Qc mc ms free) (vx_Post XC mc ms free) := vx_backW (hh := hh) (bytes := bytes) (maxL := maxL) (ret := ret) hM hp.1 hrc hrs hfr hlo hws hcw (fun a' U hW => word_at hW (Or.inl (by first | rfl | simp [Cond.onTables, Cond.keeps, Cond.steady])) hini)
  obtain ⟨hx, hb, hml, ho, -⟩ := S
  intro T hT X
  rcases vx_callSX X hx (hh := hh) (bytes := bytes) (maxL := maxL) (ret := ret) ho hl hstt hini hcode hy hK hg (hsize.trans hml.symm) (argsL := As) (rest := rest) (fun sig h => hn.trans (hlen sig h)) hstack hW (by rw [hb]; exact hdg)
    (fun vm₁ hW₁ => ⟨hf.1, hf.2, hp.2 (T.setVm vm₁) hT hW₁⟩) with ⟨v, vm₁, ⟨U', l2, c2, s2⟩, hW₁, X', ⟨g', mk, t, L, e1, e2, hq, h1, hL, h2, h3⟩, st⟩ | ⟨q, vm₁, ⟨U', l2, c2, s2⟩, hW₁, X', ⟨g', mk, t, L, E, ce, e1, e2, hq, hce, hcv, hcl, h1, hL, h2, h3⟩, st⟩
  · dsimp only [Pt.U, Pt.locs, Pt.cells, Pt.slots] at X' e1 e2 h1 h2 h3 st
    subst h1; subst h2; subst h3
    exact Or.inl ⟨v, (T.setVm vm₁).calling g' mk As.toArray, t, U', L, hT, X', hL, e1, e2, hq, st⟩
  · dsimp only [Pt.U, Pt.locs, Pt.cells, Pt.slots] at X' e1 e2 h1 h2 h3 st hcl
    subst h1; subst h2; subst h3
    exact Or.inr ⟨q, (T.setVm vm₁).calling g' mk As.toArray, t, U', L, E, ce, hT, X', hL, e1, e2, hq, hce, hcv, vx_cls hW₁ hcl, st⟩
end
end VXH
theorem vx_ofWH {l : Launch} {y : MethodName} {ws ws' : List Cond} {rm : Room} {Pc : Array Value → State → Prop} {Qc : Array Value → State → Outcome → State → Prop} {XC : String → State → State → Prop} {mc ms : Nat} {free : Addr → Prop} {cc : ByteArray} {maxL : Nat} {ret : Option FieldType} {hh : List (Nat × Nat × Nat × Nat)}
    (hy : plainName y.cls = true) (hw : ws = Cond.codeWith y cc maxL ret hh :: ws')
    (body : ∀ p e s m args below meth c s₁, BodyLoose p l y (headSpec ws rm) cc maxL ret e s m args below meth c s₁ → c.maxLocals = maxL → Pc args s →
      W p l e (headSpec ws rm).room s m args below meth c s.heap [] 0 0 (vx_MQ below Qc XC args s mc ms free) (entryFrame m args maxL)) : vx_Met l y ws rm Pc Qc XC mc ms free := by
  refine MetFree.of_bodyS (code := cc) (maxLocals := maxL) (ret := ret) hy ?_ ?_
  · intro args s m h hn
    obtain ⟨m9, meth, c, hn9, h1, h2, h3, h4, -, h5, h6, -⟩ := Cond.codeWith_spec (atoms_spec (ws := ws) h _ (by rw [hw]; exact List.mem_cons_self))
    cases hn.symm.trans hn9
    exact ⟨meth, c, h1, h2, h3, h4, h5, h6⟩
  · intro p e s m args below meth c s₁ B hml hP _
    have hh0 : s₁.heap = s.heap := by rw [B.state]; rfl
    obtain ⟨t, a1, o, b1, b2, b3⟩ := body p e s m args below meth c s₁ B hml hP s₁ hh0 (Stand.of_body B)
    exact ⟨t, o, a1, b1, b2, b3⟩
/-! ===== END ===== -/
end
section
/-! ===== BEGIN printed: names, fields, word lists, decode rows ===== -/
def RX0 : String := "MeetingOrders$OrderText"
def TX0 : u_T := fun k => match k with
  | 0 => ("MeetingOrders$OrderText", "bytes", "LMeetingOrders$Row;", true)
  | 1 => ("MeetingOrders$OrderText", "kinds", "LMeetingOrders$Row;", true)
  | 2 => ("MeetingOrders$OrderText", "numbers", "LMeetingOrders$Row;", true)
  | 3 => ("MeetingOrders$OrderText", "weeks", "LMeetingOrders$Row;", true)
  | 4 => ("MeetingOrders$OrderText", "hours", "LMeetingOrders$Row;", true)
  | 5 => ("MeetingOrders$OrderText", "length", "I", false)
  | 6 => ("MeetingOrders$OrderText", "count", "I", false)
  | _ => ("MeetingOrders$OrderText", "place", "I", false)
def tyX0 : Nat → FieldType := fun k => match k with
  | 0 => .object "MeetingOrders$Row"
  | 1 => .object "MeetingOrders$Row"
  | 2 => .object "MeetingOrders$Row"
  | 3 => .object "MeetingOrders$Row"
  | 4 => .object "MeetingOrders$Row"
  | 5 => .int
  | 6 => .int
  | _ => .int
abbrev wsX00 : List Cond := u_ws RX0 TX0 8
theorem nmX0 : ∀ a, a < 8 → ∀ b, b < 8 → a ≠ b → (TX0 a).2.1 ≠ (TX0 b).2.1 := by decide +kernel
theorem tyX0_ok : ∀ k, k < 8 → parseFieldDescriptor (TX0 k).2.2.1 = some (tyX0 k) := by decide +kernel
abbrev cX0_init : ByteArray := prog_2_method_1_code
def yX0_init : MethodName := ⟨RX0, "<init>", "()V"⟩
abbrev cX0_addByte : ByteArray := prog_2_method_2_code
def yX0_addByte : MethodName := ⟨RX0, "addByte", "(I)I"⟩
abbrev cX0_readAll : ByteArray := prog_2_method_3_code
def yX0_readAll : MethodName := ⟨RX0, "readAll", "()I"⟩
abbrev cX0_readOrder : ByteArray := prog_2_method_4_code
def yX0_readOrder : MethodName := ⟨RX0, "readOrder", "()Z"⟩
abbrev cX0_readSign : ByteArray := prog_2_method_5_code
def yX0_readSign : MethodName := ⟨RX0, "readSign", "(I)Z"⟩
abbrev cX0_readDigit : ByteArray := prog_2_method_6_code
def yX0_readDigit : MethodName := ⟨RX0, "readDigit", "(ILMeetingOrders$Row;)Z"⟩
abbrev cX0_readNumber : ByteArray := prog_2_method_7_code
def yX0_readNumber : MethodName := ⟨RX0, "readNumber", "(ILMeetingOrders$Row;)Z"⟩
abbrev cX0_isDigitHere : ByteArray := prog_2_method_8_code
def yX0_isDigitHere : MethodName := ⟨RX0, "isDigitHere", "()Z"⟩
abbrev cX0_byteHere : ByteArray := prog_2_method_9_code
def yX0_byteHere : MethodName := ⟨RX0, "byteHere", "()I"⟩
def RX1 : String := "MeetingOrders$Row"
def TX1 : u_T := fun k => match k with
  | _ => ("MeetingOrders$Row", "cells", "[I", true)
def tyX1 : Nat → FieldType := fun k => match k with
  | _ => .array .int
abbrev wsX10 : List Cond := u_ws RX1 TX1 1
theorem nmX1 : ∀ a, a < 1 → ∀ b, b < 1 → a ≠ b → (TX1 a).2.1 ≠ (TX1 b).2.1 := by decide +kernel
theorem tyX1_ok : ∀ k, k < 1 → parseFieldDescriptor (TX1 k).2.2.1 = some (tyX1 k) := by decide +kernel
abbrev cX1_init : ByteArray := prog_3_method_1_code
def yX1_init : MethodName := ⟨RX1, "<init>", "(I)V"⟩
abbrev cX1_get : ByteArray := prog_3_method_2_code
def yX1_get : MethodName := ⟨RX1, "get", "(I)I"⟩
abbrev cX1_set : ByteArray := prog_3_method_3_code
def yX1_set : MethodName := ⟨RX1, "set", "(II)V"⟩
abbrev cX1_add : ByteArray := prog_3_method_4_code
def yX1_add : MethodName := ⟨RX1, "add", "(II)V"⟩
abbrev cX1_mark : ByteArray := prog_3_method_5_code
def yX1_mark : MethodName := ⟨RX1, "mark", "(II)V"⟩
abbrev cX1_sum : ByteArray := prog_3_method_6_code
def yX1_sum : MethodName := ⟨RX1, "sum", "()I"⟩
abbrev cX1_clear : ByteArray := prog_3_method_7_code
def yX1_clear : MethodName := ⟨RX1, "clear", "()V"⟩
abbrev cX1_copyFrom : ByteArray := prog_3_method_8_code
def yX1_copyFrom : MethodName := ⟨RX1, "copyFrom", "(LMeetingOrders$Row;)V"⟩
def RX2 : String := "MeetingOrders$State"
def TX2 : u_T := fun k => match k with
  | 0 => ("MeetingOrders$State", "orders", "I", false)
  | 1 => ("MeetingOrders$State", "escorts", "I", false)
  | 2 => ("MeetingOrders$State", "venues", "I", false)
  | 3 => ("MeetingOrders$State", "meetings", "I", false)
  | 4 => ("MeetingOrders$State", "week", "I", false)
  | 5 => ("MeetingOrders$State", "nextNumber", "I", false)
  | 6 => ("MeetingOrders$State", "hours", "LMeetingOrders$Row;", true)
  | 7 => ("MeetingOrders$State", "allowed", "LMeetingOrders$Row;", true)
  | 8 => ("MeetingOrders$State", "held", "LMeetingOrders$Row;", true)
  | 9 => ("MeetingOrders$State", "missed", "LMeetingOrders$Row;", true)
  | 10 => ("MeetingOrders$State", "slots", "LMeetingOrders$Row;", true)
  | 11 => ("MeetingOrders$State", "limits", "LMeetingOrders$Row;", true)
  | 12 => ("MeetingOrders$State", "heldWith", "LMeetingOrders$Row;", true)
  | 13 => ("MeetingOrders$State", "rooms", "LMeetingOrders$Row;", true)
  | _ => ("MeetingOrders$State", "facts", "LMeetingOrders$Row;", true)
def tyX2 : Nat → FieldType := fun k => match k with
  | 0 => .int
  | 1 => .int
  | 2 => .int
  | 3 => .int
  | 4 => .int
  | 5 => .int
  | 6 => .object "MeetingOrders$Row"
  | 7 => .object "MeetingOrders$Row"
  | 8 => .object "MeetingOrders$Row"
  | 9 => .object "MeetingOrders$Row"
  | 10 => .object "MeetingOrders$Row"
  | 11 => .object "MeetingOrders$Row"
  | 12 => .object "MeetingOrders$Row"
  | 13 => .object "MeetingOrders$Row"
  | _ => .object "MeetingOrders$Row"
abbrev wsX20 : List Cond := u_ws RX2 TX2 15
theorem nmX2 : ∀ a, a < 15 → ∀ b, b < 15 → a ≠ b → (TX2 a).2.1 ≠ (TX2 b).2.1 := by decide +kernel
theorem tyX2_ok : ∀ k, k < 15 → parseFieldDescriptor (TX2 k).2.2.1 = some (tyX2 k) := by decide +kernel
abbrev cX2_init : ByteArray := prog_4_method_1_code
def yX2_init : MethodName := ⟨RX2, "<init>", "()V"⟩
abbrev cX2_copyFrom : ByteArray := prog_4_method_2_code
def yX2_copyFrom : MethodName := ⟨RX2, "copyFrom", "(LMeetingOrders$State;)V"⟩
abbrev cX2_hasOrder : ByteArray := prog_4_method_3_code
def yX2_hasOrder : MethodName := ⟨RX2, "hasOrder", "(I)Z"⟩
abbrev cX2_hasEscort : ByteArray := prog_4_method_4_code
def yX2_hasEscort : MethodName := ⟨RX2, "hasEscort", "(I)Z"⟩
abbrev cX2_hasVenue : ByteArray := prog_4_method_5_code
def yX2_hasVenue : MethodName := ⟨RX2, "hasVenue", "(I)Z"⟩
abbrev cX2_hasAllVenues : ByteArray := prog_4_method_6_code
def yX2_hasAllVenues : MethodName := ⟨RX2, "hasAllVenues", "(I)Z"⟩
abbrev cX2_isOver : ByteArray := prog_4_method_7_code
def yX2_isOver : MethodName := ⟨RX2, "isOver", "(I)Z"⟩
abbrev cX2_isLastWeek : ByteArray := prog_4_method_8_code
def yX2_isLastWeek : MethodName := ⟨RX2, "isLastWeek", "()Z"⟩
abbrev cX2_isFull : ByteArray := prog_4_method_9_code
def yX2_isFull : MethodName := ⟨RX2, "isFull", "()Z"⟩
abbrev cX2_enterOrder : ByteArray := prog_4_method_10_code
def yX2_enterOrder : MethodName := ⟨RX2, "enterOrder", "(II)I"⟩
abbrev cX2_enterEscort : ByteArray := prog_4_method_11_code
def yX2_enterEscort : MethodName := ⟨RX2, "enterEscort", "(II)I"⟩
abbrev cX2_enterVenue : ByteArray := prog_4_method_12_code
def yX2_enterVenue : MethodName := ⟨RX2, "enterVenue", "(I)I"⟩
abbrev cX2_hoursIn : ByteArray := prog_4_method_13_code
def yX2_hoursIn : MethodName := ⟨RX2, "hoursIn", "(II)I"⟩
abbrev cX2_setHoursFrom : ByteArray := prog_4_method_14_code
def yX2_setHoursFrom : MethodName := ⟨RX2, "setHoursFrom", "(III)V"⟩
abbrev cX2_hoursUpTo : ByteArray := prog_4_method_15_code
def yX2_hoursUpTo : MethodName := ⟨RX2, "hoursUpTo", "(II)I"⟩
abbrev cX2_plannedUpTo : ByteArray := prog_4_method_16_code
def yX2_plannedUpTo : MethodName := ⟨RX2, "plannedUpTo", "(II)I"⟩
abbrev cX2_debt : ByteArray := prog_4_method_17_code
def yX2_debt : MethodName := ⟨RX2, "debt", "(II)I"⟩
abbrev cX2_debtOfAll : ByteArray := prog_4_method_18_code
def yX2_debtOfAll : MethodName := ⟨RX2, "debtOfAll", "(I)I"⟩
abbrev cX2_meetingsWith : ByteArray := prog_4_method_19_code
def yX2_meetingsWith : MethodName := ⟨RX2, "meetingsWith", "(II)I"⟩
abbrev cX2_fact : ByteArray := prog_4_method_20_code
def yX2_fact : MethodName := ⟨RX2, "fact", "(II)I"⟩
abbrev cX2_takesPlaceIn : ByteArray := prog_4_method_21_code
def yX2_takesPlaceIn : MethodName := ⟨RX2, "takesPlaceIn", "(II)Z"⟩
abbrev cX2_isOpen : ByteArray := prog_4_method_22_code
def yX2_isOpen : MethodName := ⟨RX2, "isOpen", "(I)Z"⟩
abbrev cX2_placeOf : ByteArray := prog_4_method_23_code
def yX2_placeOf : MethodName := ⟨RX2, "placeOf", "(I)I"⟩
abbrev cX2_keepMeeting : ByteArray := prog_4_method_24_code
def yX2_keepMeeting : MethodName := ⟨RX2, "keepMeeting", "(IIIII)I"⟩
abbrev cX2_moveMeeting : ByteArray := prog_4_method_25_code
def yX2_moveMeeting : MethodName := ⟨RX2, "moveMeeting", "(II)V"⟩
abbrev cX2_dropMeeting : ByteArray := prog_4_method_26_code
def yX2_dropMeeting : MethodName := ⟨RX2, "dropMeeting", "(I)V"⟩
abbrev cX2_settle : ByteArray := prog_4_method_27_code
def yX2_settle : MethodName := ⟨RX2, "settle", "(II)V"⟩
abbrev cX2_settleWeek : ByteArray := prog_4_method_28_code
def yX2_settleWeek : MethodName := ⟨RX2, "settleWeek", "(I)I"⟩
abbrev cX2_beginNextWeek : ByteArray := prog_4_method_29_code
def yX2_beginNextWeek : MethodName := ⟨RX2, "beginNextWeek", "()V"⟩
def RX3 : String := "MeetingOrders$WeekBook"
def TX3 : u_T := fun k => match k with
  | 0 => ("MeetingOrders$WeekBook", "daysOfOrder", "LMeetingOrders$Row;", true)
  | 1 => ("MeetingOrders$WeekBook", "slotsOfEscort", "LMeetingOrders$Row;", true)
  | 2 => ("MeetingOrders$WeekBook", "meetingsOfEscort", "LMeetingOrders$Row;", true)
  | 3 => ("MeetingOrders$WeekBook", "roomsTaken", "LMeetingOrders$Row;", true)
  | 4 => ("MeetingOrders$WeekBook", "debts", "LMeetingOrders$Row;", true)
  | 5 => ("MeetingOrders$WeekBook", "slot", "I", false)
  | 6 => ("MeetingOrders$WeekBook", "escort", "I", false)
  | _ => ("MeetingOrders$WeekBook", "venue", "I", false)
def tyX3 : Nat → FieldType := fun k => match k with
  | 0 => .object "MeetingOrders$Row"
  | 1 => .object "MeetingOrders$Row"
  | 2 => .object "MeetingOrders$Row"
  | 3 => .object "MeetingOrders$Row"
  | 4 => .object "MeetingOrders$Row"
  | 5 => .int
  | 6 => .int
  | _ => .int
abbrev wsX30 : List Cond := u_ws RX3 TX3 8
theorem nmX3 : ∀ a, a < 8 → ∀ b, b < 8 → a ≠ b → (TX3 a).2.1 ≠ (TX3 b).2.1 := by decide +kernel
theorem tyX3_ok : ∀ k, k < 8 → parseFieldDescriptor (TX3 k).2.2.1 = some (tyX3 k) := by decide +kernel
abbrev cX3_init : ByteArray := prog_5_method_1_code
def yX3_init : MethodName := ⟨RX3, "<init>", "()V"⟩
abbrev cX3_open : ByteArray := prog_5_method_2_code
def yX3_open : MethodName := ⟨RX3, "open", "(LMeetingOrders$State;I)V"⟩
abbrev cX3_take : ByteArray := prog_5_method_3_code
def yX3_take : MethodName := ⟨RX3, "take", "(IIII)V"⟩
abbrev cX3_conflict : ByteArray := prog_5_method_4_code
def yX3_conflict : MethodName := ⟨RX3, "conflict", "(LMeetingOrders$State;IIII)I"⟩
abbrev cX3_roomsLeft : ByteArray := prog_5_method_5_code
def yX3_roomsLeft : MethodName := ⟨RX3, "roomsLeft", "(LMeetingOrders$State;II)I"⟩
abbrev cX3_planAll : ByteArray := prog_5_method_6_code
def yX3_planAll : MethodName := ⟨RX3, "planAll", "(LMeetingOrders$State;I)I"⟩
abbrev cX3_greatestDebt : ByteArray := prog_5_method_7_code
def yX3_greatestDebt : MethodName := ⟨RX3, "greatestDebt", "(LMeetingOrders$State;)I"⟩
abbrev cX3_search : ByteArray := prog_5_method_8_code
def yX3_search : MethodName := ⟨RX3, "search", "(LMeetingOrders$State;I)Z"⟩
abbrev cX3_freestEscort : ByteArray := prog_5_method_9_code
def yX3_freestEscort : MethodName := ⟨RX3, "freestEscort", "(LMeetingOrders$State;I)I"⟩
abbrev cX3_firstVenue : ByteArray := prog_5_method_10_code
def yX3_firstVenue : MethodName := ⟨RX3, "firstVenue", "(LMeetingOrders$State;II)I"⟩
abbrev cX3_isIn : ByteArray := prog_5_method_11_code
def yX3_isIn : MethodName := ⟨RX3, "isIn", "(II)Z"⟩
def RX4 : String := "MeetingOrders"
def TX4 : u_T := fun k => match k with
  | 0 => ("MeetingOrders", "now", "LMeetingOrders$State;", true)
  | 1 => ("MeetingOrders", "trial", "LMeetingOrders$State;", true)
  | 2 => ("MeetingOrders", "saved", "[LMeetingOrders$State;", true)
  | 3 => ("MeetingOrders", "book", "LMeetingOrders$WeekBook;", true)
  | 4 => ("MeetingOrders", "text", "LMeetingOrders$OrderText;", true)
  | _ => ("MeetingOrders", "savedCount", "I", false)
def tyX4 : Nat → FieldType := fun k => match k with
  | 0 => .object "MeetingOrders$State"
  | 1 => .object "MeetingOrders$State"
  | 2 => .array (.object "MeetingOrders$State")
  | 3 => .object "MeetingOrders$WeekBook"
  | 4 => .object "MeetingOrders$OrderText"
  | _ => .int
abbrev wsX40 : List Cond := u_ws RX4 TX4 6
theorem nmX4 : ∀ a, a < 6 → ∀ b, b < 6 → a ≠ b → (TX4 a).2.1 ≠ (TX4 b).2.1 := by decide +kernel
theorem tyX4_ok : ∀ k, k < 6 → parseFieldDescriptor (TX4 k).2.2.1 = some (tyX4 k) := by decide +kernel
abbrev cX4_init : ByteArray := prog_1_method_1_code
def yX4_init : MethodName := ⟨RX4, "<init>", "()V"⟩
abbrev cX4_addOrder : ByteArray := prog_1_method_2_code
def yX4_addOrder : MethodName := ⟨RX4, "addOrder", "(II)I"⟩
abbrev cX4_change : ByteArray := prog_1_method_3_code
def yX4_change : MethodName := ⟨RX4, "change", "(III)I"⟩
abbrev cX4_allow : ByteArray := prog_1_method_4_code
def yX4_allow : MethodName := ⟨RX4, "allow", "(II)I"⟩
abbrev cX4_addEscort : ByteArray := prog_1_method_5_code
def yX4_addEscort : MethodName := ⟨RX4, "addEscort", "(II)I"⟩
abbrev cX4_setSlots : ByteArray := prog_1_method_6_code
def yX4_setSlots : MethodName := ⟨RX4, "setSlots", "(II)I"⟩
abbrev cX4_addVenue : ByteArray := prog_1_method_7_code
def yX4_addVenue : MethodName := ⟨RX4, "addVenue", "(I)I"⟩
abbrev cX4_plan : ByteArray := prog_1_method_8_code
def yX4_plan : MethodName := ⟨RX4, "plan", "(IIIII)I"⟩
abbrev cX4_planWeek : ByteArray := prog_1_method_9_code
def yX4_planWeek : MethodName := ⟨RX4, "planWeek", "(I)I"⟩
abbrev cX4_cancel : ByteArray := prog_1_method_10_code
def yX4_cancel : MethodName := ⟨RX4, "cancel", "(I)I"⟩
abbrev cX4_tell : ByteArray := prog_1_method_11_code
def yX4_tell : MethodName := ⟨RX4, "tell", "(IZ)I"⟩
abbrev cX4_endWeek : ByteArray := prog_1_method_12_code
def yX4_endWeek : MethodName := ⟨RX4, "endWeek", "()I"⟩
abbrev cX4_order : ByteArray := prog_1_method_13_code
def yX4_order : MethodName := ⟨RX4, "order", "(II)I"⟩
abbrev cX4_hours : ByteArray := prog_1_method_14_code
def yX4_hours : MethodName := ⟨RX4, "hours", "(II)I"⟩
abbrev cX4_owed : ByteArray := prog_1_method_15_code
def yX4_owed : MethodName := ⟨RX4, "owed", "(II)I"⟩
abbrev cX4_meeting : ByteArray := prog_1_method_16_code
def yX4_meeting : MethodName := ⟨RX4, "meeting", "(II)I"⟩
abbrev cX4_escort : ByteArray := prog_1_method_17_code
def yX4_escort : MethodName := ⟨RX4, "escort", "(II)I"⟩
abbrev cX4_freeRooms : ByteArray := prog_1_method_18_code
def yX4_freeRooms : MethodName := ⟨RX4, "freeRooms", "(III)I"⟩
abbrev cX4_value : ByteArray := prog_1_method_19_code
def yX4_value : MethodName := ⟨RX4, "value", "(I)I"⟩
abbrev cX4_why : ByteArray := prog_1_method_20_code
def yX4_why : MethodName := ⟨RX4, "why", "(IIIII)I"⟩
abbrev cX4_firstSlot : ByteArray := prog_1_method_21_code
def yX4_firstSlot : MethodName := ⟨RX4, "firstSlot", "(II)I"⟩
abbrev cX4_owedBehind : ByteArray := prog_1_method_22_code
def yX4_owedBehind : MethodName := ⟨RX4, "owedBehind", "(I)I"⟩
abbrev cX4_settledIn : ByteArray := prog_1_method_23_code
def yX4_settledIn : MethodName := ⟨RX4, "settledIn", "()I"⟩
abbrev cX4_gainBy : ByteArray := prog_1_method_24_code
def yX4_gainBy : MethodName := ⟨RX4, "gainBy", "(II)I"⟩
abbrev cX4_kept : ByteArray := prog_1_method_25_code
def yX4_kept : MethodName := ⟨RX4, "kept", "()D"⟩
abbrev cX4_append : ByteArray := prog_1_method_26_code
def yX4_append : MethodName := ⟨RX4, "append", "(I)I"⟩
abbrev cX4_clearText : ByteArray := prog_1_method_27_code
def yX4_clearText : MethodName := ⟨RX4, "clearText", "()I"⟩
abbrev cX4_carryOut : ByteArray := prog_1_method_28_code
def yX4_carryOut : MethodName := ⟨RX4, "carryOut", "()I"⟩
abbrev cX4_undo : ByteArray := prog_1_method_29_code
def yX4_undo : MethodName := ⟨RX4, "undo", "()I"⟩
abbrev cX4_digest : ByteArray := prog_1_method_30_code
def yX4_digest : MethodName := ⟨RX4, "digest", "()J"⟩
abbrev cX4_digestOfOrder : ByteArray := prog_1_method_31_code
def yX4_digestOfOrder : MethodName := ⟨RX4, "digestOfOrder", "(JI)J"⟩
abbrev cX4_digestOfMeeting : ByteArray := prog_1_method_32_code
def yX4_digestOfMeeting : MethodName := ⟨RX4, "digestOfMeeting", "(JI)J"⟩
abbrev cX4_carryOutOne : ByteArray := prog_1_method_33_code
def yX4_carryOutOne : MethodName := ⟨RX4, "carryOutOne", "(IIII)Z"⟩
abbrev cX4_settleIfOpen : ByteArray := prog_1_method_34_code
def yX4_settleIfOpen : MethodName := ⟨RX4, "settleIfOpen", "(II)Z"⟩
abbrev cX4_reasonAgainst : ByteArray := prog_1_method_35_code
def yX4_reasonAgainst : MethodName := ⟨RX4, "reasonAgainst", "(IIIII)I"⟩
abbrev cX4_save : ByteArray := prog_1_method_36_code
def yX4_save : MethodName := ⟨RX4, "save", "()V"⟩
abbrev cX4_mayChange : ByteArray := prog_1_method_37_code
def yX4_mayChange : MethodName := ⟨RX4, "mayChange", "(II)Z"⟩
abbrev cX4_isHours : ByteArray := prog_1_method_38_code
def yX4_isHours : MethodName := ⟨RX4, "isHours", "(I)Z"⟩
abbrev cX4_isWeek : ByteArray := prog_1_method_39_code
def yX4_isWeek : MethodName := ⟨RX4, "isWeek", "(I)Z"⟩
abbrev cX4_isSlot : ByteArray := prog_1_method_40_code
def yX4_isSlot : MethodName := ⟨RX4, "isSlot", "(I)Z"⟩
abbrev cX4_isSetOfSlots : ByteArray := prog_1_method_41_code
def yX4_isSetOfSlots : MethodName := ⟨RX4, "isSetOfSlots", "(I)Z"⟩
def RX5 : String := "MeetingOrdersModel"
def TX5 : u_T := fun k => match k with
  | 0 => ("MeetingOrdersModel", "all", "[I", true)
  | 1 => ("MeetingOrdersModel", "saved", "[I", true)
  | 2 => ("MeetingOrdersModel", "savedMany", "I", false)
  | 3 => ("MeetingOrdersModel", "aside", "[I", true)
  | 4 => ("MeetingOrdersModel", "thrown", "I", false)
  | 5 => ("MeetingOrdersModel", "free", "[I", true)
  | 6 => ("MeetingOrdersModel", "busy", "[I", true)
  | 7 => ("MeetingOrdersModel", "manyOf", "[I", true)
  | 8 => ("MeetingOrdersModel", "days", "[I", true)
  | 9 => ("MeetingOrdersModel", "text", "[I", true)
  | 10 => ("MeetingOrdersModel", "textLong", "I", false)
  | 11 => ("MeetingOrdersModel", "at", "I", false)
  | 12 => ("MeetingOrdersModel", "letter", "I", false)
  | 13 => ("MeetingOrdersModel", "numbers", "[I", true)
  | _ => ("MeetingOrdersModel", "sum", "J", false)
def tyX5 : Nat → FieldType := fun k => match k with
  | 0 => .array .int
  | 1 => .array .int
  | 2 => .int
  | 3 => .array .int
  | 4 => .int
  | 5 => .array .int
  | 6 => .array .int
  | 7 => .array .int
  | 8 => .array .int
  | 9 => .array .int
  | 10 => .int
  | 11 => .int
  | 12 => .int
  | 13 => .array .int
  | _ => .long
abbrev wsX50 : List Cond := u_ws RX5 TX5 15
theorem nmX5 : ∀ a, a < 15 → ∀ b, b < 15 → a ≠ b → (TX5 a).2.1 ≠ (TX5 b).2.1 := by decide +kernel
theorem tyX5_ok : ∀ k, k < 15 → parseFieldDescriptor (TX5 k).2.2.1 = some (tyX5 k) := by decide +kernel
abbrev cX5_init : ByteArray := prog_7_method_1_code
def yX5_init : MethodName := ⟨RX5, "<init>", "()V"⟩
abbrev cX5_thrown : ByteArray := prog_7_method_2_code
def yX5_thrown : MethodName := ⟨RX5, "thrown", "()I"⟩
abbrev cX5_in : ByteArray := prog_7_method_3_code
def yX5_in : MethodName := ⟨RX5, "in", "(JJJ)Z"⟩
abbrev cX5_goes : ByteArray := prog_7_method_4_code
def yX5_goes : MethodName := ⟨RX5, "goes", "(ZZZ)Z"⟩
abbrev cX5_save : ByteArray := prog_7_method_5_code
def yX5_save : MethodName := ⟨RX5, "save", "()V"⟩
abbrev cX5_layAside : ByteArray := prog_7_method_6_code
def yX5_layAside : MethodName := ⟨RX5, "layAside", "()V"⟩
abbrev cX5_takeBack : ByteArray := prog_7_method_7_code
def yX5_takeBack : MethodName := ⟨RX5, "takeBack", "()V"⟩
abbrev cX5_has : ByteArray := prog_7_method_8_code
def yX5_has : MethodName := ⟨RX5, "has", "(II)Z"⟩
abbrev cX5_isOrder : ByteArray := prog_7_method_9_code
def yX5_isOrder : MethodName := ⟨RX5, "isOrder", "(I)Z"⟩
abbrev cX5_isEscort : ByteArray := prog_7_method_10_code
def yX5_isEscort : MethodName := ⟨RX5, "isEscort", "(I)Z"⟩
abbrev cX5_isVenue : ByteArray := prog_7_method_11_code
def yX5_isVenue : MethodName := ⟨RX5, "isVenue", "(I)Z"⟩
abbrev cX5_isWeek : ByteArray := prog_7_method_12_code
def yX5_isWeek : MethodName := ⟨RX5, "isWeek", "(I)Z"⟩
abbrev cX5_isSlot : ByteArray := prog_7_method_13_code
def yX5_isSlot : MethodName := ⟨RX5, "isSlot", "(I)Z"⟩
abbrev cX5_areVenues : ByteArray := prog_7_method_14_code
def yX5_areVenues : MethodName := ⟨RX5, "areVenues", "(I)Z"⟩
abbrev cX5_addOrder : ByteArray := prog_7_method_15_code
def yX5_addOrder : MethodName := ⟨RX5, "addOrder", "(II)I"⟩
abbrev cX5_changes : ByteArray := prog_7_method_16_code
def yX5_changes : MethodName := ⟨RX5, "changes", "(III)V"⟩
abbrev cX5_mayChange : ByteArray := prog_7_method_17_code
def yX5_mayChange : MethodName := ⟨RX5, "mayChange", "(II)Z"⟩
abbrev cX5_change : ByteArray := prog_7_method_18_code
def yX5_change : MethodName := ⟨RX5, "change", "(III)I"⟩
abbrev cX5_exchange : ByteArray := prog_7_method_19_code
def yX5_exchange : MethodName := ⟨RX5, "exchange", "(II)I"⟩
abbrev cX5_allow : ByteArray := prog_7_method_20_code
def yX5_allow : MethodName := ⟨RX5, "allow", "(II)I"⟩
abbrev cX5_addEscort : ByteArray := prog_7_method_21_code
def yX5_addEscort : MethodName := ⟨RX5, "addEscort", "(II)I"⟩
abbrev cX5_setSlots : ByteArray := prog_7_method_22_code
def yX5_setSlots : MethodName := ⟨RX5, "setSlots", "(II)I"⟩
abbrev cX5_addVenue : ByteArray := prog_7_method_23_code
def yX5_addVenue : MethodName := ⟨RX5, "addVenue", "(I)I"⟩
abbrev cX5_of : ByteArray := prog_7_method_24_code
def yX5_of : MethodName := ⟨RX5, "of", "(II)I"⟩
abbrev cX5_placeOf : ByteArray := prog_7_method_25_code
def yX5_placeOf : MethodName := ⟨RX5, "placeOf", "(I)I"⟩
abbrev cX5_takeOut : ByteArray := prog_7_method_26_code
def yX5_takeOut : MethodName := ⟨RX5, "takeOut", "(I)V"⟩
abbrev cX5_stands : ByteArray := prog_7_method_27_code
def yX5_stands : MethodName := ⟨RX5, "stands", "(II)Z"⟩
abbrev cX5_look : ByteArray := prog_7_method_28_code
def yX5_look : MethodName := ⟨RX5, "look", "(I)V"⟩
abbrev cX5_whyEscort : ByteArray := prog_7_method_29_code
def yX5_whyEscort : MethodName := ⟨RX5, "whyEscort", "(II)I"⟩
abbrev cX5_reason : ByteArray := prog_7_method_30_code
def yX5_reason : MethodName := ⟨RX5, "reason", "(IIIII)I"⟩
abbrev cX5_lays : ByteArray := prog_7_method_31_code
def yX5_lays : MethodName := ⟨RX5, "lays", "(IIIII)V"⟩
abbrev cX5_areThere : ByteArray := prog_7_method_32_code
def yX5_areThere : MethodName := ⟨RX5, "areThere", "(III)Z"⟩
abbrev cX5_plan : ByteArray := prog_7_method_33_code
def yX5_plan : MethodName := ⟨RX5, "plan", "(IIIII)I"⟩
abbrev cX5_owes : ByteArray := prog_7_method_34_code
def yX5_owes : MethodName := ⟨RX5, "owes", "(II)I"⟩
abbrev cX5_owedByAll : ByteArray := prog_7_method_35_code
def yX5_owedByAll : MethodName := ⟨RX5, "owedByAll", "(I)I"⟩
abbrev cX5_venueFor : ByteArray := prog_7_method_36_code
def yX5_venueFor : MethodName := ⟨RX5, "venueFor", "(II)I"⟩
abbrev cX5_escortFor : ByteArray := prog_7_method_37_code
def yX5_escortFor : MethodName := ⟨RX5, "escortFor", "(I)I"⟩
abbrev cX5_slotFor : ByteArray := prog_7_method_38_code
def yX5_slotFor : MethodName := ⟨RX5, "slotFor", "(II)I"⟩
abbrev cX5_plansOne : ByteArray := prog_7_method_39_code
def yX5_plansOne : MethodName := ⟨RX5, "plansOne", "(I)Z"⟩
abbrev cX5_plans : ByteArray := prog_7_method_40_code
def yX5_plans : MethodName := ⟨RX5, "plans", "(I)I"⟩
abbrev cX5_planWeek : ByteArray := prog_7_method_41_code
def yX5_planWeek : MethodName := ⟨RX5, "planWeek", "(I)I"⟩
abbrev cX5_cancel : ByteArray := prog_7_method_42_code
def yX5_cancel : MethodName := ⟨RX5, "cancel", "(I)I"⟩
abbrev cX5_holds : ByteArray := prog_7_method_43_code
def yX5_holds : MethodName := ⟨RX5, "holds", "(I)V"⟩
abbrev cX5_misses : ByteArray := prog_7_method_44_code
def yX5_misses : MethodName := ⟨RX5, "misses", "(I)V"⟩
abbrev cX5_mayTell : ByteArray := prog_7_method_45_code
def yX5_mayTell : MethodName := ⟨RX5, "mayTell", "(I)Z"⟩
abbrev cX5_tells : ByteArray := prog_7_method_46_code
def yX5_tells : MethodName := ⟨RX5, "tells", "(IZ)V"⟩
abbrev cX5_tell : ByteArray := prog_7_method_47_code
def yX5_tell : MethodName := ⟨RX5, "tell", "(IZ)I"⟩
abbrev cX5_ends : ByteArray := prog_7_method_48_code
def yX5_ends : MethodName := ⟨RX5, "ends", "()I"⟩
abbrev cX5_endWeek : ByteArray := prog_7_method_49_code
def yX5_endWeek : MethodName := ⟨RX5, "endWeek", "()I"⟩
abbrev cX5_plannedOf : ByteArray := prog_7_method_50_code
def yX5_plannedOf : MethodName := ⟨RX5, "plannedOf", "(I)I"⟩
abbrev cX5_hoursOf : ByteArray := prog_7_method_51_code
def yX5_hoursOf : MethodName := ⟨RX5, "hoursOf", "(I)I"⟩
abbrev cX5_orderValue : ByteArray := prog_7_method_52_code
def yX5_orderValue : MethodName := ⟨RX5, "orderValue", "(II)I"⟩
abbrev cX5_order : ByteArray := prog_7_method_53_code
def yX5_order : MethodName := ⟨RX5, "order", "(II)I"⟩
abbrev cX5_hours : ByteArray := prog_7_method_54_code
def yX5_hours : MethodName := ⟨RX5, "hours", "(II)I"⟩
abbrev cX5_owed : ByteArray := prog_7_method_55_code
def yX5_owed : MethodName := ⟨RX5, "owed", "(II)I"⟩
abbrev cX5_meeting : ByteArray := prog_7_method_56_code
def yX5_meeting : MethodName := ⟨RX5, "meeting", "(II)I"⟩
abbrev cX5_manyNow : ByteArray := prog_7_method_57_code
def yX5_manyNow : MethodName := ⟨RX5, "manyNow", "(I)I"⟩
abbrev cX5_escortValue : ByteArray := prog_7_method_58_code
def yX5_escortValue : MethodName := ⟨RX5, "escortValue", "(II)I"⟩
abbrev cX5_escort : ByteArray := prog_7_method_59_code
def yX5_escort : MethodName := ⟨RX5, "escort", "(II)I"⟩
abbrev cX5_freeRooms : ByteArray := prog_7_method_60_code
def yX5_freeRooms : MethodName := ⟨RX5, "freeRooms", "(III)I"⟩
abbrev cX5_numberOf : ByteArray := prog_7_method_61_code
def yX5_numberOf : MethodName := ⟨RX5, "numberOf", "(I)I"⟩
abbrev cX5_value : ByteArray := prog_7_method_62_code
def yX5_value : MethodName := ⟨RX5, "value", "(I)I"⟩
abbrev cX5_why : ByteArray := prog_7_method_63_code
def yX5_why : MethodName := ⟨RX5, "why", "(IIIII)I"⟩
abbrev cX5_firstSlot : ByteArray := prog_7_method_64_code
def yX5_firstSlot : MethodName := ⟨RX5, "firstSlot", "(II)I"⟩
abbrev cX5_owedBehind : ByteArray := prog_7_method_65_code
def yX5_owedBehind : MethodName := ⟨RX5, "owedBehind", "(I)I"⟩
abbrev cX5_holdsAll : ByteArray := prog_7_method_66_code
def yX5_holdsAll : MethodName := ⟨RX5, "holdsAll", "()V"⟩
abbrev cX5_settled : ByteArray := prog_7_method_67_code
def yX5_settled : MethodName := ⟨RX5, "settled", "()I"⟩
abbrev cX5_settledIn : ByteArray := prog_7_method_68_code
def yX5_settledIn : MethodName := ⟨RX5, "settledIn", "()I"⟩
abbrev cX5_gainBy : ByteArray := prog_7_method_69_code
def yX5_gainBy : MethodName := ⟨RX5, "gainBy", "(II)I"⟩
abbrev cX5_kept : ByteArray := prog_7_method_70_code
def yX5_kept : MethodName := ⟨RX5, "kept", "()D"⟩
abbrev cX5_append : ByteArray := prog_7_method_71_code
def yX5_append : MethodName := ⟨RX5, "append", "(I)I"⟩
abbrev cX5_clearText : ByteArray := prog_7_method_72_code
def yX5_clearText : MethodName := ⟨RX5, "clearText", "()I"⟩
abbrev cX5_here : ByteArray := prog_7_method_73_code
def yX5_here : MethodName := ⟨RX5, "here", "()I"⟩
abbrev cX5_takesByte : ByteArray := prog_7_method_74_code
def yX5_takesByte : MethodName := ⟨RX5, "takesByte", "(I)Z"⟩
abbrev cX5_takesDigit : ByteArray := prog_7_method_75_code
def yX5_takesDigit : MethodName := ⟨RX5, "takesDigit", "(I)Z"⟩
abbrev cX5_takesNumber : ByteArray := prog_7_method_76_code
def yX5_takesNumber : MethodName := ⟨RX5, "takesNumber", "(II)Z"⟩
abbrev cX5_takesParts : ByteArray := prog_7_method_77_code
def yX5_takesParts : MethodName := ⟨RX5, "takesParts", "()Z"⟩
abbrev cX5_takesOrder : ByteArray := prog_7_method_78_code
def yX5_takesOrder : MethodName := ⟨RX5, "takesOrder", "()Z"⟩
abbrev cX5_changesOrder : ByteArray := prog_7_method_79_code
def yX5_changesOrder : MethodName := ⟨RX5, "changesOrder", "()Z"⟩
abbrev cX5_does : ByteArray := prog_7_method_80_code
def yX5_does : MethodName := ⟨RX5, "does", "()Z"⟩
abbrev cX5_carryOut : ByteArray := prog_7_method_81_code
def yX5_carryOut : MethodName := ⟨RX5, "carryOut", "()I"⟩
abbrev cX5_undo : ByteArray := prog_7_method_82_code
def yX5_undo : MethodName := ⟨RX5, "undo", "()I"⟩
abbrev cX5_adds : ByteArray := prog_7_method_83_code
def yX5_adds : MethodName := ⟨RX5, "adds", "(I)V"⟩
abbrev cX5_addsOrder : ByteArray := prog_7_method_84_code
def yX5_addsOrder : MethodName := ⟨RX5, "addsOrder", "(I)V"⟩
abbrev cX5_digest : ByteArray := prog_7_method_85_code
def yX5_digest : MethodName := ⟨RX5, "digest", "()J"⟩
def RJ9 : String := "java/lang/Math"
def TJ9 : u_T := fun k => match k with
  | _ => ("", "", "", false)
def tyJ9 : Nat → FieldType := fun k => match k with
  | _ => .int
abbrev wsJ90 : List Cond := u_ws RJ9 TJ9 0
theorem nmJ9 : ∀ a, a < 0 → ∀ b, b < 0 → a ≠ b → (TJ9 a).2.1 ≠ (TJ9 b).2.1 := by decide +kernel
theorem tyJ9_ok : ∀ k, k < 0 → parseFieldDescriptor (TJ9 k).2.2.1 = some (tyJ9 k) := by decide +kernel
abbrev cJ9_max_7cf53 : ByteArray := prog_12_method_65_code
def yJ9_max_7cf53 : MethodName := ⟨RJ9, "max", "(II)I"⟩
abbrev cJ9_min_7cf53 : ByteArray := prog_12_method_69_code
def yJ9_min_7cf53 : MethodName := ⟨RJ9, "min", "(II)I"⟩
def RJ0 : String := "java/lang/String"
def TJ0 : u_T := fun k => match k with
  | _ => ("", "", "", false)
def tyJ0 : Nat → FieldType := fun k => match k with
  | _ => .int
abbrev wsJ00 : List Cond := u_ws RJ0 TJ0 0
theorem nmJ0 : ∀ a, a < 0 → ∀ b, b < 0 → a ≠ b → (TJ0 a).2.1 ≠ (TJ0 b).2.1 := by decide +kernel
theorem tyJ0_ok : ∀ k, k < 0 → parseFieldDescriptor (TJ0 k).2.2.1 = some (tyJ0 k) := by decide +kernel
def RJ10 : String := "java/lang/System"
def TJ10 : u_T := fun k => match k with
  | _ => ("", "", "", false)
def tyJ10 : Nat → FieldType := fun k => match k with
  | _ => .int
abbrev wsJ100 : List Cond := u_ws RJ10 TJ10 0
theorem nmJ10 : ∀ a, a < 0 → ∀ b, b < 0 → a ≠ b → (TJ10 a).2.1 ≠ (TJ10 b).2.1 := by decide +kernel
theorem tyJ10_ok : ∀ k, k < 0 → parseFieldDescriptor (TJ10 k).2.2.1 = some (tyJ10 k) := by decide +kernel
def RL : String := "MeetingOrdersLaw"
abbrev cL_addOrder : ByteArray := method_3_code
def yL_addOrder : MethodName := ⟨RL, "addOrder", "(LMeetingOrders;II[J)I"⟩
abbrev cL_change : ByteArray := method_4_code
def yL_change : MethodName := ⟨RL, "change", "(LMeetingOrders;III[J)I"⟩
abbrev cL_allow : ByteArray := method_5_code
def yL_allow : MethodName := ⟨RL, "allow", "(LMeetingOrders;II[J)I"⟩
abbrev cL_addEscort : ByteArray := method_6_code
def yL_addEscort : MethodName := ⟨RL, "addEscort", "(LMeetingOrders;II[J)I"⟩
abbrev cL_setSlots : ByteArray := method_7_code
def yL_setSlots : MethodName := ⟨RL, "setSlots", "(LMeetingOrders;II[J)I"⟩
abbrev cL_addVenue : ByteArray := method_8_code
def yL_addVenue : MethodName := ⟨RL, "addVenue", "(LMeetingOrders;I[J)I"⟩
abbrev cL_plan : ByteArray := method_9_code
def yL_plan : MethodName := ⟨RL, "plan", "(LMeetingOrders;IIIII[J)I"⟩
abbrev cL_planWeek : ByteArray := method_10_code
def yL_planWeek : MethodName := ⟨RL, "planWeek", "(LMeetingOrders;I[J)I"⟩
abbrev cL_cancel : ByteArray := method_11_code
def yL_cancel : MethodName := ⟨RL, "cancel", "(LMeetingOrders;I[J)I"⟩
abbrev cL_tell : ByteArray := method_12_code
def yL_tell : MethodName := ⟨RL, "tell", "(LMeetingOrders;IZ[J)I"⟩
abbrev cL_endWeek : ByteArray := method_13_code
def yL_endWeek : MethodName := ⟨RL, "endWeek", "(LMeetingOrders;[J)I"⟩
abbrev cL_order : ByteArray := method_14_code
def yL_order : MethodName := ⟨RL, "order", "(LMeetingOrders;II[J)I"⟩
abbrev cL_hours : ByteArray := method_15_code
def yL_hours : MethodName := ⟨RL, "hours", "(LMeetingOrders;II[J)I"⟩
abbrev cL_owed : ByteArray := method_16_code
def yL_owed : MethodName := ⟨RL, "owed", "(LMeetingOrders;II[J)I"⟩
abbrev cL_meeting : ByteArray := method_17_code
def yL_meeting : MethodName := ⟨RL, "meeting", "(LMeetingOrders;II[J)I"⟩
abbrev cL_escort : ByteArray := method_18_code
def yL_escort : MethodName := ⟨RL, "escort", "(LMeetingOrders;II[J)I"⟩
abbrev cL_freeRooms : ByteArray := method_19_code
def yL_freeRooms : MethodName := ⟨RL, "freeRooms", "(LMeetingOrders;III[J)I"⟩
abbrev cL_value : ByteArray := method_20_code
def yL_value : MethodName := ⟨RL, "value", "(LMeetingOrders;I[J)I"⟩
abbrev cL_why : ByteArray := method_21_code
def yL_why : MethodName := ⟨RL, "why", "(LMeetingOrders;IIIII[J)I"⟩
abbrev cL_firstSlot : ByteArray := method_22_code
def yL_firstSlot : MethodName := ⟨RL, "firstSlot", "(LMeetingOrders;II[J)I"⟩
abbrev cL_owedBehind : ByteArray := method_23_code
def yL_owedBehind : MethodName := ⟨RL, "owedBehind", "(LMeetingOrders;I[J)I"⟩
abbrev cL_gainBy : ByteArray := method_24_code
def yL_gainBy : MethodName := ⟨RL, "gainBy", "(LMeetingOrders;II[J)I"⟩
abbrev cL_append : ByteArray := method_25_code
def yL_append : MethodName := ⟨RL, "append", "(LMeetingOrders;I[J)I"⟩
abbrev cL_undo : ByteArray := method_26_code
def yL_undo : MethodName := ⟨RL, "undo", "(LMeetingOrders;[J)I"⟩
abbrev cL_law : ByteArray := code
def yL_law : MethodName := ⟨RL, "law", "([I)Z"⟩
abbrev vwCl : List vw_C := [(RX0, TX0, 8), (RX1, TX1, 1), (RX2, TX2, 15), (RX3, TX3, 8), (RX4, TX4, 6), (RX5, TX5, 15)]
end
section
/-! THE V LAYER: ints of the machine as whole numbers, memory as a function; each rule rests on one row of the kit -/
def mo_B : List Cond := lw_tbl.filter goodWord
abbrev mo_E : Type := va_G × (ClassId × ClassId × ClassId) × Nat
def mo_tys (ρ : mo_E) : List (ClassId × FieldType) := [(ρ.2.1.1, .int), (ρ.2.1.2.1, .long), (ρ.2.1.2.2, .object RX2)]
def mo_K (ρ : mo_E) (U : State) : Prop := va_K ρ.1 vwCl (mo_tys ρ) U
def mo_iv (x : Int) : Value := .int (Int32.ofInt x)
def mo_jv (x : Int) : Value := .long (Int64.ofInt x)
abbrev mo_In (x : Int) : Prop := -2147483648 ≤ x ∧ x < 2147483648
abbrev mo_Jn (x : Int) : Prop := -9223372036854775808 ≤ x ∧ x < 9223372036854775808
abbrev mo_Kd : Type := Nat ⊕ (Nat × Nat)
abbrev mo_G : Type := (Nat → Option mo_Kd) × (Nat → Nat → Option Nat)
abbrev mo_M : Type := Nat → Nat → Int
def mo_fk : Nat → Nat → Nat
  | 0, k => if k < 5 then 2 else 0
  | 1, _ => 2
  | 2, k => if k < 6 then 0 else 2
  | 3, k => if k < 5 then 2 else 0
  | 4, k => if k < 5 then 2 else 0
  | _, k => if k = 14 then 1 else if k = 2 ∨ k = 4 ∨ k = 10 ∨ k = 11 ∨ k = 12 then 0 else 2
def mo_fn : Nat → Nat
  | 0 => 8
  | 1 => 1
  | 2 => 15
  | 3 => 8
  | 4 => 6
  | _ => 15
def mo_fv (G : mo_G) (M : mo_M) (a ci k : Nat) : Value := match mo_fk ci k with
  | 0 => mo_iv (M a k)
  | 1 => mo_jv (M a k)
  | _ => va_rf (G.2 a k)
def mo_fs (G : mo_G) (M : mo_M) (a ci : Nat) : List Value := (List.range (mo_fn ci)).map (mo_fv G M a ci)
def mo_el (ρ : mo_E) (G : mo_G) (M : mo_M) (a : Nat) : mo_Kd → va_E
  | .inl ci => .inr (ci, mo_fs G M a ci)
  | .inr (0, n) => .inl (ρ.2.1.1, n, .inl (fun j => Int32.ofInt (M a j)))
  | .inr (1, n) => .inl (ρ.2.1.2.1, n, .inr (.inl (fun j => Int64.ofInt (M a j))))
  | .inr (_ + 2, n) => .inl (ρ.2.1.2.2, n, .inr (.inr (.inr (.inr (fun j => G.2 a j)))))
/-- the heap is as the memory says, cell by cell -/
def mo_R (ρ : mo_E) (G : mo_G) (M : mo_M) (H : Heap) : Prop := ∀ (a : Nat) (e : mo_Kd), G.1 a = some e → ρ.2.2 ≤ a ∧ va_at ρ.1 vwCl (a, mo_el ρ G M a e) H
def mo_ur (M : mo_M) (a : Nat) (f : Nat → Int) : mo_M := fun b => if b = a then f else M b
theorem mo_ur_s (M : mo_M) (a : Nat) (f : Nat → Int) : mo_ur M a f a = f := by simp [mo_ur]
theorem mo_ur_n {M : mo_M} {a b : Nat} {f : Nat → Int} (h : b ≠ a) : mo_ur M a f b = M b := by simp [mo_ur, h]
theorem mo_ur_ur (M : mo_M) (a : Nat) (f g : Nat → Int) : mo_ur (mo_ur M a f) a g = mo_ur M a g := by
  funext b
  by_cases h : b = a <;> simp [mo_ur, h]
theorem mo_ur_id (M : mo_M) (a : Nat) : mo_ur M a (M a) = M := by
  funext b
  by_cases h : b = a <;> simp [mo_ur, h]
theorem mo_up_s {α : Type} (f : Nat → α) (k : Nat) (v : α) : va_up f k v k = v := by simp [va_up]
theorem mo_up_n {α : Type} {f : Nat → α} {k j : Nat} {v : α} (h : j ≠ k) : va_up f k v j = f j := by simp [va_up, h]
/-! whole numbers and the machine's -/
theorem mo_bm {z : Int} (h : mo_In z) : z.bmod (2 ^ 32) = z := Int.bmod_eq_of_le (by omega) (by omega)
theorem mo_bl {z : Int} (h : mo_Jn z) : z.bmod (2 ^ 64) = z := Int.bmod_eq_of_le (by omega) (by omega)
theorem mo_ti {z : Int} (h : mo_In z) : (Int32.ofInt z).toInt = z := by rw [Int32.toInt_ofInt, mo_bm h]
theorem mo_tl {z : Int} (h : mo_Jn z) : (Int64.ofInt z).toInt = z := by rw [Int64.toInt_ofInt, mo_bl h]
theorem mo_ri (x : Int32) : mo_In x.toInt := by
  have h1 := Int32.le_toInt x
  have h2 := Int32.toInt_lt x
  omega
theorem mo_of (x : Int32) : Value.int x = mo_iv x.toInt := by rw [mo_iv, Int32.ofInt_toInt]
theorem mo_le {x y : Int} (hx : mo_In x) (hy : mo_In y) : Int32.ofInt x ≤ Int32.ofInt y ↔ x ≤ y := by rw [Int32.le_iff_toInt_le, mo_ti hx, mo_ti hy]
theorem mo_lt {x y : Int} (hx : mo_In x) (hy : mo_In y) : Int32.ofInt x < Int32.ofInt y ↔ x < y := by rw [Int32.lt_iff_toInt_lt, mo_ti hx, mo_ti hy]
theorem mo_eq {x y : Int} (hx : mo_In x) (hy : mo_In y) : Int32.ofInt x = Int32.ofInt y ↔ x = y := by rw [← Int32.toInt_inj, mo_ti hx, mo_ti hy]
theorem mo_0 : (0 : Int32) = Int32.ofInt 0 := by decide
theorem mo_cl {x : Int} (hx : mo_In x) (h0 : 0 ≤ x) : (Int32.ofInt x).toNatClampNeg = x.toNat := by
  rw [Int32.toNatClampNeg, mo_ti hx]
theorem mo_vin {x : Int} {n : Nat} (hx : mo_In x) (h0 : 0 ≤ x) (h1 : x < n) : vp_in (Int32.ofInt x) n := by
  intro h
  rcases h with h | h
  · rw [mo_0, mo_lt hx (by omega)] at h
    omega
  · rw [mo_cl hx h0] at h
    omega
/-! lists of locals by place -/
def mo_en : Nat → List (Option Value) → List (Nat × Value)
  | _, [] => []
  | i, none :: r => mo_en (i + 1) r
  | i, some v :: r => (i, v) :: mo_en (i + 1) r
theorem mo_en_in : ∀ (ls : List (Option Value)) (i n : Nat) (v : Value), ls[n]? = some (some v) → (i + n, v) ∈ mo_en i ls
  | [], _, _, _, h => by simp at h
  | none :: r, i, 0, v, h => by simp at h
  | none :: r, i, n + 1, v, h => by
    have h2 := mo_en_in r (i + 1) n v (by simpa using h)
    rw [show i + (n + 1) = i + 1 + n by omega]
    exact h2
  | some z :: r, i, 0, v, h => by
    simp at h
    subst h
    exact List.mem_cons_self
  | some z :: r, i, n + 1, v, h => by
    have h2 := mo_en_in r (i + 1) n v (by simpa using h)
    rw [show i + (n + 1) = i + 1 + n by omega]
    exact List.mem_cons_of_mem _ h2
theorem mo_en_of : ∀ (ls : List (Option Value)) (i : Nat) (q : Nat × Value), q ∈ mo_en i ls → ∃ n, q.1 = i + n ∧ ls[n]? = some (some q.2)
  | [], _, _, h => by simp [mo_en] at h
  | none :: r, i, q, h => by
    obtain ⟨n, h1, h2⟩ := mo_en_of r (i + 1) q h
    exact ⟨n + 1, by omega, by simpa using h2⟩
  | some z :: r, i, q, h => by
    rcases List.mem_cons.mp h with h | h
    · exact ⟨0, by rw [h]; rfl, by rw [h]; rfl⟩
    · obtain ⟨n, h1, h2⟩ := mo_en_of r (i + 1) q h
      exact ⟨n + 1, by omega, by simpa using h2⟩
theorem mo_ld {lr : Array Slot} {nL : Nat} {ls : List (Option Value)} (h : lv_has lr nL (mo_en 0 ls)) {n : Nat} {v : Value} (hn : ls[n]? = some (some v)) : lr[n]? = some (.val v) := by
  have h1 := h.2.2 _ (mo_en_in ls 0 n v hn)
  simpa using h1
theorem mo_lhs {lr : Array Slot} {nL : Nat} {l l' : List (Nat × Value)} (h : lv_has lr nL l) (hs : ∀ q ∈ l', q ∈ l) : lv_has lr nL l' := ⟨h.1, h.2.1, fun q hq => h.2.2 q (hs q hq)⟩
def mo_c1 : Option Value → Bool
  | none => true
  | some v => !(v.category == 2)
theorem mo_stq {ls : List (Option Value)} {n : Nat} {v : Value} (hc : n = 0 ∨ ∃ o, ls[n - 1]? = some o ∧ mo_c1 o = true) (q : Nat × Value) (hq : q ∈ mo_en 0 (ls.set n (some v))) : q ∈ (n, v) :: (mo_en 0 ls).filter (fun q => !(q.1 == n) && !(q.1 + 1 == n && q.2.category == 2)) := by
  obtain ⟨j, h1, h2⟩ := mo_en_of _ _ _ hq
  rw [Nat.zero_add] at h1
  by_cases hj : j = n
  · subst hj
    have h3 : j < (ls.set j (some v)).length := (List.getElem?_eq_some_iff.mp h2).1
    rw [List.length_set] at h3
    rw [List.getElem?_set_self h3] at h2
    have h4 : v = q.2 := by simpa using h2
    have h5 : q = (j, v) := by rw [h4, ← h1]
    rw [h5]
    exact List.mem_cons_self
  · rw [List.getElem?_set_ne (fun h => hj h.symm)] at h2
    refine List.mem_cons_of_mem _ (List.mem_filter.mpr ⟨?_, ?_⟩)
    · have h3 := mo_en_in ls 0 j q.2 h2
      rw [Nat.zero_add, ← h1] at h3
      exact h3
    · have a1 : (q.1 == n) = false := by simp; omega
      have a2 : (q.1 + 1 == n && q.2.category == 2) = false := by
        by_cases h6 : q.1 + 1 = n
        · rcases hc with hc | ⟨o, ho, hc⟩
          · omega
          · rw [show n - 1 = j by omega, h2] at ho
            cases ho
            simp only [mo_c1, Bool.not_eq_true'] at hc
            rw [hc, Bool.and_false]
        · have h7 : (q.1 + 1 == n) = false := by simpa using h6
          rw [h7, Bool.false_and]
      rw [a1, a2]
      rfl
theorem mo_stq2 {ls : List (Option Value)} {n : Nat} {v : Value} (hc : n = 0 ∨ ∃ o, ls[n - 1]? = some o ∧ mo_c1 o = true) (q : Nat × Value) (hq : q ∈ mo_en 0 ((ls.set n (some v)).set (n + 1) none)) : q ∈ (n, v) :: (mo_en 0 ls).filter (fun q => !(q.1 == n) && (!(q.1 == n + 1) && !(q.1 + 1 == n && q.2.category == 2))) := by
  obtain ⟨j, h1, h2⟩ := mo_en_of _ _ _ hq
  rw [Nat.zero_add] at h1
  by_cases hj1 : j = n + 1
  · subst hj1
    by_cases h3 : n + 1 < (ls.set n (some v)).length
    · rw [List.getElem?_set_self h3] at h2
      simp at h2
    · rw [List.getElem?_eq_none (by rw [List.length_set]; omega)] at h2
      cases h2
  · rw [List.getElem?_set_ne (fun h => hj1 h.symm)] at h2
    have h4 : q ∈ mo_en 0 (ls.set n (some v)) := by
      have h3 := mo_en_in _ 0 j q.2 h2
      rw [Nat.zero_add, ← h1] at h3
      exact h3
    rcases List.mem_cons.mp (mo_stq hc q h4) with h5 | h5
    · rw [h5]
      exact List.mem_cons_self
    · obtain ⟨h6, h7⟩ := List.mem_filter.mp h5
      refine List.mem_cons_of_mem _ (List.mem_filter.mpr ⟨h6, ?_⟩)
      simp only [Bool.and_eq_true] at h7 ⊢
      refine ⟨h7.1, ?_, h7.2⟩
      have h8 : q.1 ≠ n + 1 := by omega
      simpa using h8
/-! memory and cells -/
theorem mo_one {D : va_G} {cl : List vw_C} {q : Nat × va_E} {H : Heap} (h : va_at D cl q H) : va_P D cl [q] H := by
  intro k x hx
  have h1 : k < 1 := (List.getElem?_eq_some_iff.mp hx).1
  obtain rfl : k = 0 := by omega
  cases hx
  exact h
theorem mo_fs_at (G : mo_G) (M : mo_M) (a ci : Nat) {k : Nat} (hk : k < mo_fn ci) : (mo_fs G M a ci)[k]? = some (mo_fv G M a ci k) := by
  simp [mo_fs, hk]
theorem mo_fs_len (G : mo_G) (M : mo_M) (a ci : Nat) : (mo_fs G M a ci).length = mo_fn ci := by simp [mo_fs]
theorem mo_fs_set (G G' : mo_G) (M M' : mo_M) (a ci k : Nat) (v : Value) (h1 : mo_fv G' M' a ci k = v) (h2 : ∀ j, j ≠ k → mo_fv G' M' a ci j = mo_fv G M a ci j) : (mo_fs G M a ci).set k v = mo_fs G' M' a ci := by
  apply List.ext_getElem?
  intro j
  by_cases hj : j < mo_fn ci
  · rw [mo_fs_at G' M' a ci hj]
    by_cases hjk : j = k
    · subst hjk
      rw [List.getElem?_set_self (by rw [mo_fs_len]; exact hj), h1]
    · rw [List.getElem?_set_ne (fun h => hjk h.symm), mo_fs_at G M a ci hj, h2 j hjk]
  · rw [List.getElem?_eq_none (by rw [List.length_set, mo_fs_len]; omega), List.getElem?_eq_none (by rw [mo_fs_len]; omega)]
theorem mo_el_ne (ρ : mo_E) (G : mo_G) (M M' : mo_M) (a : Nat) (e : mo_Kd) (h : M' a = M a) : mo_el ρ G M' a e = mo_el ρ G M a e := by
  have hf : mo_fs G M' a = mo_fs G M a := by
    funext ci
    unfold mo_fs
    congr 1
    funext k
    unfold mo_fv
    rw [h]
  rcases e with ci | ⟨t, n⟩
  · show Sum.inr _ = Sum.inr _
    rw [hf]
  · match t with
    | 0 => show Sum.inl _ = Sum.inl _; rw [h]
    | 1 => show Sum.inl _ = Sum.inl _; rw [h]
    | t + 2 => rfl
/-- after a write at one cell: the others stay -/
theorem mo_R_set {ρ : mo_E} {G : mo_G} {M : mo_M} {H H1 : Heap} {a : Nat} {f : Nat → Int} {e : mo_Kd} (hR : mo_R ρ G M H) (he : G.1 a = some e) (h1 : va_at ρ.1 vwCl (a, mo_el ρ G (mo_ur M a f) a e) H1) (h2 : ∀ q, q ≠ a → H1[q]? = H[q]?) : mo_R ρ G (mo_ur M a f) H1 := by
  intro b e' hb
  by_cases hba : b = a
  · subst hba
    cases he.symm.trans hb
    exact ⟨(hR b e hb).1, h1⟩
  · refine ⟨(hR b e' hb).1, ?_⟩
    rw [mo_el_ne ρ G M _ b e' (mo_ur_n hba)]
    exact (hR b e' hb).2.kept (h2 b hba)
abbrev mo_T : Type := (Program × Launch × Env × Room × State) × (MethodId × Array Value × List Frame × Method × Code) × (State → Prop) × mo_E
def mo_V (κ : mo_T) (k n pc : Nat) (ls : List (Option Value)) (st : List Value) (G : mo_G) (M : mo_M) (t : Nat) : Prop := match κ with
  | ((p, l, e, R, s), (m, args, below, meth, c), Q, ρ) => ∀ (H : Heap) (locs : List Loc) (lr : Array Slot), H.size = t → mo_R ρ G M H → va_S (fun q => ρ.2.2 ≤ q) s.heap H locs → lv_has lr c.maxLocals (mo_en 0 ls) → W p l e R s m args below meth c H locs k n Q (F0 m pc lr st)
/-- what a walk stands on: machine, code, words, tables, room of depth d -/
def mo_Cx (κ : mo_T) (lf : Launch) (ρf : mo_E) (cc : ByteArray) (nL : Nat) (own : String) (ret : Option FieldType) (d : Nat) : Prop := match κ with
  | ((p, l, e, R, s), (m, args, below, meth, c), Q, ρ) => p.tables.exec = Jvm.exec ∧ c.code = cc ∧ c.maxLocals = nL ∧ s.vm.findClass own = some m.cls ∧ (∀ w ∈ mo_B, w.before args s = true) ∧ mo_K ρ s ∧ meth.locks = false ∧ meth.sig.returnType = ret ∧ ρ.2.2 ≤ s.heap.size ∧ d ≤ R.frames ∧ 30 * d ≤ R.locals ∧ l = lf ∧ ρ = ρf
def mo_fr (ρ : mo_E) : Addr → Prop := fun q => ρ.2.2 ≤ q
def mo_Qc (ρ : mo_E) (post : Option Value → mo_G → mo_M → Nat → Prop) : Array Value → State → Outcome → State → Prop := fun _ st oc u => (∃ (v : Option Value) (G : mo_G) (M : mo_M), oc = .returned v ∧ post v G M u.heap.size ∧ mo_R ρ G M u.heap) ∧ va_F (fun q => ρ.2.2 ≤ q) st u
def mo_Rt (κ : mo_T) (post : Option Value → mo_G → mo_M → Nat → Prop) (kc ks : Nat) : Prop := match κ with
  | ((_, _, _, _, s), (_, args, below, _, _), Q, ρ) => Q = MQ below (mo_Qc ρ post) args s kc ks (mo_fr ρ)
def mo_ws (y : MethodName) (cc : ByteArray) (maxL : Nat) (ret : Option FieldType) : List Cond := Cond.code y cc maxL ret :: mo_B
def mo_rm (d kc ks : Nat) : Room := { frames := d, cells := kc, slots := ks, locals := 30 * d }
def mo_Bc (ρ : mo_E) (G : mo_G) (M : mo_M) (t : Nat) : State → Prop := fun U => U.heap.size = t ∧ mo_R ρ G M U.heap ∧ mo_K ρ U ∧ ρ.2.2 ≤ t
def mo_Ct (l : Launch) (ρ : mo_E) (y : MethodName) (cc : ByteArray) (maxL : Nat) (ret : Option FieldType) (d kc ks : Nat) (av : List Value) (G : mo_G) (M : mo_M) (t : Nat) (post : Option Value → mo_G → mo_M → Nat → Prop) : Prop :=
  Met l y (mo_ws y cc maxL ret) (mo_rm d kc ks) (va_Pc av (mo_Bc ρ G M t)) (mo_Qc ρ post) kc ks (mo_fr ρ)
theorem mo_ofW {l : Launch} {ρ : mo_E} {y : MethodName} {cc : ByteArray} {maxL d kc ks : Nat} {ret : Option FieldType} {av : List Value} {G : mo_G} {M : mo_M} {t : Nat} {post : Option Value → mo_G → mo_M → Nat → Prop} {ls0 : List (Option Value)}
    (hy : plainName y.cls = true) (hls : mo_en 0 ls0 = lv_args 0 av) (hlen : (lg_sl av).length ≤ maxL)
    (body : ∀ κ : mo_T, mo_Cx κ l ρ cc maxL y.cls ret d → mo_Rt κ post kc ks → mo_V κ 0 0 0 ls0 [] G M t) : mo_Ct l ρ y cc maxL ret d kc ks av G M t post := by
  refine Met.ofW (cc := cc) (maxL := maxL) (ret := ret) hy rfl ?_
  intro p e s m args below meth c s₁ B hml hv
  obtain ⟨rfl, hsz, hR, hK, hb0⟩ := hv
  have hl := lv_entry av (n := maxL) hlen
  rw [lg_entry_eq]
  have hts := atoms_spec (ws := mo_ws y cc maxL ret) B.pre
  refine body ((p, l, e, mo_rm d kc ks, s), (m, av.toArray, below, meth, c), MQ below (mo_Qc ρ post) av.toArray s kc ks (mo_fr ρ), ρ) ⟨B.exec, B.bytes, hml, findClass_of_methodNamed B.named, fun w h => hts w (List.mem_cons_of_mem _ h), hK, B.notSynchronized, B.returns, by rw [hsz]; exact hb0, Nat.le_refl _, Nat.le_refl _, rfl, rfl⟩ rfl s.heap [] _ hsz hR va_S.rf ?_
  rw [hls, hml]
  exact hl

section MOR
variable {κ : mo_T} {lf : Launch} {ρf : mo_E} {cc : ByteArray} {nL : Nat} {own : String} {ret : Option FieldType} {d k n pc : Nat} {ls : List (Option Value)} {st : List Value} {G : mo_G} {M : mo_M} {t : Nat}

theorem mo_iconst (X : mo_Cx κ lf ρf cc nL own ret d) {v : Int} (hd : decode cc pc = .ok (.iconst v, 1)) (kk : mo_V κ k n (pc + 1) ls (mo_iv v :: st) G M t) : mo_V κ k n pc ls st G M t := by
  obtain ⟨⟨p, l, e, R, s⟩, ⟨m, args, below, meth, c⟩, Q, ρ⟩ := κ
  obtain ⟨hx, hb, hml, hown, hts, hK, hlk, hrt, hb0, hRf, hRl, hlf, hρ⟩ := X
  intro H locs lr ht hR hS hl
  exact lv_iconst hx hb hd rfl (kk H locs lr ht hR hS hl)
theorem mo_bipush (X : mo_Cx κ lf ρf cc nL own ret d) {v : Int} (hd : decode cc pc = .ok (.bipush v, 2)) (hv : (Int8.ofInt v).toInt32 = Int32.ofInt v) (kk : mo_V κ k n (pc + 2) ls (mo_iv v :: st) G M t) : mo_V κ k n pc ls st G M t := by
  obtain ⟨⟨p, l, e, R, s⟩, ⟨m, args, below, meth, c⟩, Q, ρ⟩ := κ
  obtain ⟨hx, hb, hml, hown, hts, hK, hlk, hrt, hb0, hRf, hRl, hlf, hρ⟩ := X
  intro H locs lr ht hR hS hl
  exact lv_bipush hx hb hd hv (kk H locs lr ht hR hS hl)
theorem mo_sipush (X : mo_Cx κ lf ρf cc nL own ret d) {v : Int} (hd : decode cc pc = .ok (.sipush v, 3)) (hv : (Int16.ofInt v).toInt32 = Int32.ofInt v) (kk : mo_V κ k n (pc + 3) ls (mo_iv v :: st) G M t) : mo_V κ k n pc ls st G M t := by
  obtain ⟨⟨p, l, e, R, s⟩, ⟨m, args, below, meth, c⟩, Q, ρ⟩ := κ
  obtain ⟨hx, hb, hml, hown, hts, hK, hlk, hrt, hb0, hRf, hRl, hlf, hρ⟩ := X
  intro H locs lr ht hR hS hl
  exact lv_sipush hx hb hd hv (kk H locs lr ht hR hS hl)
theorem mo_ldc (X : mo_Cx κ lf ρf cc nL own ret d) {i : Nat} {v : Int} (hd : decode cc pc = .ok (.ldc i, 2)) (hw : Cond.constant own i (Int32.ofInt v) ∈ mo_B) (kk : mo_V κ k n (pc + 2) ls (mo_iv v :: st) G M t) : mo_V κ k n pc ls st G M t := by
  obtain ⟨⟨p, l, e, R, s⟩, ⟨m, args, below, meth, c⟩, Q, ρ⟩ := κ
  obtain ⟨hx, hb, hml, hown, hts, hK, hlk, hrt, hb0, hRf, hRl, hlf, hρ⟩ := X
  intro H locs lr ht hR hS hl
  exact lv_ldc hx hb hown (hts _ hw) hd (kk H locs lr ht hR hS hl)
theorem mo_ldc2 (X : mo_Cx κ lf ρf cc nL own ret d) {i : Nat} {v : Int} (hd : decode cc pc = .ok (.ldc2_w i, 3)) (hw : Cond.constantLong own i (Int64.ofInt v) ∈ mo_B) (kk : mo_V κ k n (pc + 3) ls (mo_jv v :: st) G M t) : mo_V κ k n pc ls st G M t := by
  obtain ⟨⟨p, l, e, R, s⟩, ⟨m, args, below, meth, c⟩, Q, ρ⟩ := κ
  obtain ⟨hx, hb, hml, hown, hts, hK, hlk, hrt, hb0, hRf, hRl, hlf, hρ⟩ := X
  intro H locs lr ht hR hS hl
  exact lv_ldc2 hx hb hown (hts _ hw) hd (kk H locs lr ht hR hS hl)
theorem mo_lconst (X : mo_Cx κ lf ρf cc nL own ret d) {v : Fin 2} {z : Int} (hd : decode cc pc = .ok (.lconst v, 1)) (hz : Int64.ofNat (v : Nat) = Int64.ofInt z) (kk : mo_V κ k n (pc + 1) ls (mo_jv z :: st) G M t) : mo_V κ k n pc ls st G M t := by
  obtain ⟨⟨p, l, e, R, s⟩, ⟨m, args, below, meth, c⟩, Q, ρ⟩ := κ
  obtain ⟨hx, hb, hml, hown, hts, hK, hlk, hrt, hb0, hRf, hRl, hlf, hρ⟩ := X
  intro H locs lr ht hR hS hl
  exact lv_lconst hx hb hd hz (kk H locs lr ht hR hS hl)
theorem mo_iload_n (X : mo_Cx κ lf ρf cc nL own ret d) {i : Fin 4} {x : Int} (hd : decode cc pc = .ok (.iload_n i, 1)) (hn : ls[(i : Nat)]? = some (some (mo_iv x))) (kk : mo_V κ k n (pc + 1) ls (mo_iv x :: st) G M t) : mo_V κ k n pc ls st G M t := by
  obtain ⟨⟨p, l, e, R, s⟩, ⟨m, args, below, meth, c⟩, Q, ρ⟩ := κ
  obtain ⟨hx, hb, hml, hown, hts, hK, hlk, hrt, hb0, hRf, hRl, hlf, hρ⟩ := X
  intro H locs lr ht hR hS hl
  exact lv_iload_n hx hb hd rfl (mo_ld hl hn) (kk H locs lr ht hR hS hl)
theorem mo_iload (X : mo_Cx κ lf ρf cc nL own ret d) {i : Nat} {x : Int} (hd : decode cc pc = .ok (.iload i, 2)) (hn : ls[i]? = some (some (mo_iv x))) (kk : mo_V κ k n (pc + 2) ls (mo_iv x :: st) G M t) : mo_V κ k n pc ls st G M t := by
  obtain ⟨⟨p, l, e, R, s⟩, ⟨m, args, below, meth, c⟩, Q, ρ⟩ := κ
  obtain ⟨hx, hb, hml, hown, hts, hK, hlk, hrt, hb0, hRf, hRl, hlf, hρ⟩ := X
  intro H locs lr ht hR hS hl
  exact lv_iload hx hb hd (mo_ld hl hn) (kk H locs lr ht hR hS hl)
theorem mo_aload_n (X : mo_Cx κ lf ρf cc nL own ret d) {i : Fin 4} {x : Nat} (hd : decode cc pc = .ok (.aload_n i, 1)) (hn : ls[(i : Nat)]? = some (some (.ref x))) (kk : mo_V κ k n (pc + 1) ls (.ref x :: st) G M t) : mo_V κ k n pc ls st G M t := by
  obtain ⟨⟨p, l, e, R, s⟩, ⟨m, args, below, meth, c⟩, Q, ρ⟩ := κ
  obtain ⟨hx, hb, hml, hown, hts, hK, hlk, hrt, hb0, hRf, hRl, hlf, hρ⟩ := X
  intro H locs lr ht hR hS hl
  exact lv_aload_n hx hb hd rfl (mo_ld hl hn) (kk H locs lr ht hR hS hl)
theorem mo_aload (X : mo_Cx κ lf ρf cc nL own ret d) {i : Nat} {x : Nat} (hd : decode cc pc = .ok (.aload i, 2)) (hn : ls[i]? = some (some (.ref x))) (kk : mo_V κ k n (pc + 2) ls (.ref x :: st) G M t) : mo_V κ k n pc ls st G M t := by
  obtain ⟨⟨p, l, e, R, s⟩, ⟨m, args, below, meth, c⟩, Q, ρ⟩ := κ
  obtain ⟨hx, hb, hml, hown, hts, hK, hlk, hrt, hb0, hRf, hRl, hlf, hρ⟩ := X
  intro H locs lr ht hR hS hl
  exact lv_aload hx hb hd (mo_ld hl hn) (kk H locs lr ht hR hS hl)
theorem mo_lload_n (X : mo_Cx κ lf ρf cc nL own ret d) {i : Fin 4} {x : Int} (hd : decode cc pc = .ok (.lload_n i, 1)) (hn : ls[(i : Nat)]? = some (some (mo_jv x))) (kk : mo_V κ k n (pc + 1) ls (mo_jv x :: st) G M t) : mo_V κ k n pc ls st G M t := by
  obtain ⟨⟨p, l, e, R, s⟩, ⟨m, args, below, meth, c⟩, Q, ρ⟩ := κ
  obtain ⟨hx, hb, hml, hown, hts, hK, hlk, hrt, hb0, hRf, hRl, hlf, hρ⟩ := X
  intro H locs lr ht hR hS hl
  exact lv_lload_n hx hb hd rfl (mo_ld hl hn) (kk H locs lr ht hR hS hl)
theorem mo_lload (X : mo_Cx κ lf ρf cc nL own ret d) {i : Nat} {x : Int} (hd : decode cc pc = .ok (.lload i, 2)) (hn : ls[i]? = some (some (mo_jv x))) (kk : mo_V κ k n (pc + 2) ls (mo_jv x :: st) G M t) : mo_V κ k n pc ls st G M t := by
  obtain ⟨⟨p, l, e, R, s⟩, ⟨m, args, below, meth, c⟩, Q, ρ⟩ := κ
  obtain ⟨hx, hb, hml, hown, hts, hK, hlk, hrt, hb0, hRf, hRl, hlf, hρ⟩ := X
  intro H locs lr ht hR hS hl
  exact lv_lload hx hb hd (mo_ld hl hn) (kk H locs lr ht hR hS hl)
theorem mo_istore_n (X : mo_Cx κ lf ρf cc nL own ret d) {z : Fin 4} {i : Nat} {x : Int} (hd : decode cc pc = .ok (.istore_n z, 1)) (hz : (z : Nat) = i) (hc : i = 0 ∨ ∃ o, ls[i - 1]? = some o ∧ mo_c1 o = true) (hi : i < nL) (kk : mo_V κ k n (pc + 1) (ls.set i (some (mo_iv x))) st G M t) : mo_V κ k n pc ls (mo_iv x :: st) G M t := by
  obtain ⟨⟨p, l, e, R, s⟩, ⟨m, args, below, meth, c⟩, Q, ρ⟩ := κ
  obtain ⟨hx, hb, hml, hown, hts, hK, hlk, hrt, hb0, hRf, hRl, hlf, hρ⟩ := X
  intro H locs lr ht hR hS hl
  exact lv_istore_n hx hb hd hz hl (by rw [hml]; exact hi) rfl (fun lr1 hl1 => kk H locs lr1 ht hR hS (mo_lhs hl1 (mo_stq hc)))
theorem mo_istore (X : mo_Cx κ lf ρf cc nL own ret d) {i : Nat} {x : Int} (hd : decode cc pc = .ok (.istore i, 2)) (hc : i = 0 ∨ ∃ o, ls[i - 1]? = some o ∧ mo_c1 o = true) (hi : i < nL) (kk : mo_V κ k n (pc + 2) (ls.set i (some (mo_iv x))) st G M t) : mo_V κ k n pc ls (mo_iv x :: st) G M t := by
  obtain ⟨⟨p, l, e, R, s⟩, ⟨m, args, below, meth, c⟩, Q, ρ⟩ := κ
  obtain ⟨hx, hb, hml, hown, hts, hK, hlk, hrt, hb0, hRf, hRl, hlf, hρ⟩ := X
  intro H locs lr ht hR hS hl
  exact lv_istore hx hb hd hl (by rw [hml]; exact hi) rfl (fun lr1 hl1 => kk H locs lr1 ht hR hS (mo_lhs hl1 (mo_stq hc)))
theorem mo_astore_n (X : mo_Cx κ lf ρf cc nL own ret d) {z : Fin 4} {i x : Nat} (hd : decode cc pc = .ok (.astore_n z, 1)) (hz : (z : Nat) = i) (hc : i = 0 ∨ ∃ o, ls[i - 1]? = some o ∧ mo_c1 o = true) (hi : i < nL) (kk : mo_V κ k n (pc + 1) (ls.set i (some (.ref x))) st G M t) : mo_V κ k n pc ls (.ref x :: st) G M t := by
  obtain ⟨⟨p, l, e, R, s⟩, ⟨m, args, below, meth, c⟩, Q, ρ⟩ := κ
  obtain ⟨hx, hb, hml, hown, hts, hK, hlk, hrt, hb0, hRf, hRl, hlf, hρ⟩ := X
  intro H locs lr ht hR hS hl
  exact lv_astore_n hx hb hd hz hl (by rw [hml]; exact hi) rfl (fun lr1 hl1 => kk H locs lr1 ht hR hS (mo_lhs hl1 (mo_stq hc)))
theorem mo_astore (X : mo_Cx κ lf ρf cc nL own ret d) {i x : Nat} (hd : decode cc pc = .ok (.astore i, 2)) (hc : i = 0 ∨ ∃ o, ls[i - 1]? = some o ∧ mo_c1 o = true) (hi : i < nL) (kk : mo_V κ k n (pc + 2) (ls.set i (some (.ref x))) st G M t) : mo_V κ k n pc ls (.ref x :: st) G M t := by
  obtain ⟨⟨p, l, e, R, s⟩, ⟨m, args, below, meth, c⟩, Q, ρ⟩ := κ
  obtain ⟨hx, hb, hml, hown, hts, hK, hlk, hrt, hb0, hRf, hRl, hlf, hρ⟩ := X
  intro H locs lr ht hR hS hl
  exact lv_astore hx hb hd hl (by rw [hml]; exact hi) rfl (fun lr1 hl1 => kk H locs lr1 ht hR hS (mo_lhs hl1 (mo_stq hc)))
theorem mo_lstore_n (X : mo_Cx κ lf ρf cc nL own ret d) {z : Fin 4} {i : Nat} {x : Int} (hd : decode cc pc = .ok (.lstore_n z, 1)) (hz : (z : Nat) = i) (hc : i = 0 ∨ ∃ o, ls[i - 1]? = some o ∧ mo_c1 o = true) (hi : i + 1 < nL) (kk : mo_V κ k n (pc + 1) ((ls.set i (some (mo_jv x))).set (i + 1) none) st G M t) : mo_V κ k n pc ls (mo_jv x :: st) G M t := by
  obtain ⟨⟨p, l, e, R, s⟩, ⟨m, args, below, meth, c⟩, Q, ρ⟩ := κ
  obtain ⟨hx, hb, hml, hown, hts, hK, hlk, hrt, hb0, hRf, hRl, hlf, hρ⟩ := X
  intro H locs lr ht hR hS hl
  exact lv_lstore_n hx hb hd hz hl (by rw [hml]; exact hi) rfl (fun lr1 hl1 => kk H locs lr1 ht hR hS (mo_lhs hl1 (mo_stq2 hc)))
theorem mo_lstore (X : mo_Cx κ lf ρf cc nL own ret d) {i : Nat} {x : Int} (hd : decode cc pc = .ok (.lstore i, 2)) (hc : i = 0 ∨ ∃ o, ls[i - 1]? = some o ∧ mo_c1 o = true) (hi : i + 1 < nL) (kk : mo_V κ k n (pc + 2) ((ls.set i (some (mo_jv x))).set (i + 1) none) st G M t) : mo_V κ k n pc ls (mo_jv x :: st) G M t := by
  obtain ⟨⟨p, l, e, R, s⟩, ⟨m, args, below, meth, c⟩, Q, ρ⟩ := κ
  obtain ⟨hx, hb, hml, hown, hts, hK, hlk, hrt, hb0, hRf, hRl, hlf, hρ⟩ := X
  intro H locs lr ht hR hS hl
  exact lv_lstore hx hb hd hl (by rw [hml]; exact hi) rfl (fun lr1 hl1 => kk H locs lr1 ht hR hS (mo_lhs hl1 (mo_stq2 hc)))
theorem mo_iinc (X : mo_Cx κ lf ρf cc nL own ret d) {i : Nat} {v x : Int} (hd : decode cc pc = .ok (.iinc i v, 3)) (hn : ls[i]? = some (some (mo_iv x))) (hc : i = 0 ∨ ∃ o, ls[i - 1]? = some o ∧ mo_c1 o = true) (hi : i < nL) (kk : mo_V κ k n (pc + 3) (ls.set i (some (mo_iv (x + v)))) st G M t) : mo_V κ k n pc ls st G M t := by
  obtain ⟨⟨p, l, e, R, s⟩, ⟨m, args, below, meth, c⟩, Q, ρ⟩ := κ
  obtain ⟨hx, hb, hml, hown, hts, hK, hlk, hrt, hb0, hRf, hRl, hlf, hρ⟩ := X
  intro H locs lr ht hR hS hl
  obtain ⟨q, hq⟩ := List.getElem?_of_mem (mo_en_in ls 0 i _ hn)
  rw [Nat.zero_add] at hq
  exact lv_iinc (x := Int32.ofInt x) (v := Int32.ofInt (x + v)) hx hb hd hl hq (by rw [Int32.ofInt_add]) (by rw [hml]; exact hi) rfl (fun lr1 hl1 => kk H locs lr1 ht hR hS (mo_lhs hl1 (mo_stq hc)))
theorem mo_il0 {r : List (Option Value)} {x : Int} (X : mo_Cx κ lf ρf cc nL own ret d) (hd : decode cc pc = .ok (.iload_n 0, 1)) (kk : mo_V κ k n (pc + 1) (some (mo_iv x) :: r) (mo_iv x :: st) G M t) : mo_V κ k n pc (some (mo_iv x) :: r) st G M t := mo_iload_n X hd rfl kk
theorem mo_al0 {r : List (Option Value)} {x : Nat} (X : mo_Cx κ lf ρf cc nL own ret d) (hd : decode cc pc = .ok (.aload_n 0, 1)) (kk : mo_V κ k n (pc + 1) (some (.ref x) :: r) (.ref x :: st) G M t) : mo_V κ k n pc (some (.ref x) :: r) st G M t := mo_aload_n X hd rfl kk
theorem mo_ll0 {r : List (Option Value)} {x : Int} (X : mo_Cx κ lf ρf cc nL own ret d) (hd : decode cc pc = .ok (.lload_n 0, 1)) (kk : mo_V κ k n (pc + 1) (some (mo_jv x) :: r) (mo_jv x :: st) G M t) : mo_V κ k n pc (some (mo_jv x) :: r) st G M t := mo_lload_n X hd rfl kk
theorem mo_is0 {o : Option Value} {r : List (Option Value)} {x : Int} (X : mo_Cx κ lf ρf cc nL own ret d) (hd : decode cc pc = .ok (.istore_n 0, 1)) (hi : 0 < nL) (kk : mo_V κ k n (pc + 1) (some (mo_iv x) :: r) st G M t) : mo_V κ k n pc (o :: r) (mo_iv x :: st) G M t := mo_istore_n X hd rfl (Or.inl rfl) hi kk
theorem mo_as0 {o : Option Value} {r : List (Option Value)} {x : Nat} (X : mo_Cx κ lf ρf cc nL own ret d) (hd : decode cc pc = .ok (.astore_n 0, 1)) (hi : 0 < nL) (kk : mo_V κ k n (pc + 1) (some (.ref x) :: r) st G M t) : mo_V κ k n pc (o :: r) (.ref x :: st) G M t := mo_astore_n X hd rfl (Or.inl rfl) hi kk
theorem mo_ls0 {o o1 : Option Value} {r : List (Option Value)} {x : Int} (X : mo_Cx κ lf ρf cc nL own ret d) (hd : decode cc pc = .ok (.lstore_n 0, 1)) (hi : 0 + 1 < nL) (kk : mo_V κ k n (pc + 1) (some (mo_jv x) :: none :: r) st G M t) : mo_V κ k n pc (o :: o1 :: r) (mo_jv x :: st) G M t := mo_lstore_n X hd rfl (Or.inl rfl) hi kk
theorem mo_ii0 {r : List (Option Value)} {v x : Int} (X : mo_Cx κ lf ρf cc nL own ret d) (hd : decode cc pc = .ok (.iinc 0 v, 3)) (hi : 0 < nL) (kk : mo_V κ k n (pc + 3) (some (mo_iv (x + v)) :: r) st G M t) : mo_V κ k n pc (some (mo_iv x) :: r) st G M t := mo_iinc X hd rfl (Or.inl rfl) hi kk
theorem mo_il1 {a0 : Option Value} {r : List (Option Value)} {x : Int} (X : mo_Cx κ lf ρf cc nL own ret d) (hd : decode cc pc = .ok (.iload_n 1, 1)) (kk : mo_V κ k n (pc + 1) (a0 :: some (mo_iv x) :: r) (mo_iv x :: st) G M t) : mo_V κ k n pc (a0 :: some (mo_iv x) :: r) st G M t := mo_iload_n X hd rfl kk
theorem mo_al1 {a0 : Option Value} {r : List (Option Value)} {x : Nat} (X : mo_Cx κ lf ρf cc nL own ret d) (hd : decode cc pc = .ok (.aload_n 1, 1)) (kk : mo_V κ k n (pc + 1) (a0 :: some (.ref x) :: r) (.ref x :: st) G M t) : mo_V κ k n pc (a0 :: some (.ref x) :: r) st G M t := mo_aload_n X hd rfl kk
theorem mo_ll1 {a0 : Option Value} {r : List (Option Value)} {x : Int} (X : mo_Cx κ lf ρf cc nL own ret d) (hd : decode cc pc = .ok (.lload_n 1, 1)) (kk : mo_V κ k n (pc + 1) (a0 :: some (mo_jv x) :: r) (mo_jv x :: st) G M t) : mo_V κ k n pc (a0 :: some (mo_jv x) :: r) st G M t := mo_lload_n X hd rfl kk
theorem mo_is1 {a0 : Option Value} {o : Option Value} {r : List (Option Value)} {x : Int} (X : mo_Cx κ lf ρf cc nL own ret d) (hd : decode cc pc = .ok (.istore_n 1, 1)) (hc : mo_c1 a0 = true) (hi : 1 < nL) (kk : mo_V κ k n (pc + 1) (a0 :: some (mo_iv x) :: r) st G M t) : mo_V κ k n pc (a0 :: o :: r) (mo_iv x :: st) G M t := mo_istore_n X hd rfl (Or.inr ⟨_, rfl, hc⟩) hi kk
theorem mo_as1 {a0 : Option Value} {o : Option Value} {r : List (Option Value)} {x : Nat} (X : mo_Cx κ lf ρf cc nL own ret d) (hd : decode cc pc = .ok (.astore_n 1, 1)) (hc : mo_c1 a0 = true) (hi : 1 < nL) (kk : mo_V κ k n (pc + 1) (a0 :: some (.ref x) :: r) st G M t) : mo_V κ k n pc (a0 :: o :: r) (.ref x :: st) G M t := mo_astore_n X hd rfl (Or.inr ⟨_, rfl, hc⟩) hi kk
theorem mo_ls1 {a0 : Option Value} {o o1 : Option Value} {r : List (Option Value)} {x : Int} (X : mo_Cx κ lf ρf cc nL own ret d) (hd : decode cc pc = .ok (.lstore_n 1, 1)) (hc : mo_c1 a0 = true) (hi : 1 + 1 < nL) (kk : mo_V κ k n (pc + 1) (a0 :: some (mo_jv x) :: none :: r) st G M t) : mo_V κ k n pc (a0 :: o :: o1 :: r) (mo_jv x :: st) G M t := mo_lstore_n X hd rfl (Or.inr ⟨_, rfl, hc⟩) hi kk
theorem mo_ii1 {a0 : Option Value} {r : List (Option Value)} {v x : Int} (X : mo_Cx κ lf ρf cc nL own ret d) (hd : decode cc pc = .ok (.iinc 1 v, 3)) (hc : mo_c1 a0 = true) (hi : 1 < nL) (kk : mo_V κ k n (pc + 3) (a0 :: some (mo_iv (x + v)) :: r) st G M t) : mo_V κ k n pc (a0 :: some (mo_iv x) :: r) st G M t := mo_iinc X hd rfl (Or.inr ⟨_, rfl, hc⟩) hi kk
theorem mo_il2 {a0 a1 : Option Value} {r : List (Option Value)} {x : Int} (X : mo_Cx κ lf ρf cc nL own ret d) (hd : decode cc pc = .ok (.iload_n 2, 1)) (kk : mo_V κ k n (pc + 1) (a0 :: a1 :: some (mo_iv x) :: r) (mo_iv x :: st) G M t) : mo_V κ k n pc (a0 :: a1 :: some (mo_iv x) :: r) st G M t := mo_iload_n X hd rfl kk
theorem mo_al2 {a0 a1 : Option Value} {r : List (Option Value)} {x : Nat} (X : mo_Cx κ lf ρf cc nL own ret d) (hd : decode cc pc = .ok (.aload_n 2, 1)) (kk : mo_V κ k n (pc + 1) (a0 :: a1 :: some (.ref x) :: r) (.ref x :: st) G M t) : mo_V κ k n pc (a0 :: a1 :: some (.ref x) :: r) st G M t := mo_aload_n X hd rfl kk
theorem mo_ll2 {a0 a1 : Option Value} {r : List (Option Value)} {x : Int} (X : mo_Cx κ lf ρf cc nL own ret d) (hd : decode cc pc = .ok (.lload_n 2, 1)) (kk : mo_V κ k n (pc + 1) (a0 :: a1 :: some (mo_jv x) :: r) (mo_jv x :: st) G M t) : mo_V κ k n pc (a0 :: a1 :: some (mo_jv x) :: r) st G M t := mo_lload_n X hd rfl kk
theorem mo_is2 {a0 a1 : Option Value} {o : Option Value} {r : List (Option Value)} {x : Int} (X : mo_Cx κ lf ρf cc nL own ret d) (hd : decode cc pc = .ok (.istore_n 2, 1)) (hc : mo_c1 a1 = true) (hi : 2 < nL) (kk : mo_V κ k n (pc + 1) (a0 :: a1 :: some (mo_iv x) :: r) st G M t) : mo_V κ k n pc (a0 :: a1 :: o :: r) (mo_iv x :: st) G M t := mo_istore_n X hd rfl (Or.inr ⟨_, rfl, hc⟩) hi kk
theorem mo_as2 {a0 a1 : Option Value} {o : Option Value} {r : List (Option Value)} {x : Nat} (X : mo_Cx κ lf ρf cc nL own ret d) (hd : decode cc pc = .ok (.astore_n 2, 1)) (hc : mo_c1 a1 = true) (hi : 2 < nL) (kk : mo_V κ k n (pc + 1) (a0 :: a1 :: some (.ref x) :: r) st G M t) : mo_V κ k n pc (a0 :: a1 :: o :: r) (.ref x :: st) G M t := mo_astore_n X hd rfl (Or.inr ⟨_, rfl, hc⟩) hi kk
theorem mo_ls2 {a0 a1 : Option Value} {o o1 : Option Value} {r : List (Option Value)} {x : Int} (X : mo_Cx κ lf ρf cc nL own ret d) (hd : decode cc pc = .ok (.lstore_n 2, 1)) (hc : mo_c1 a1 = true) (hi : 2 + 1 < nL) (kk : mo_V κ k n (pc + 1) (a0 :: a1 :: some (mo_jv x) :: none :: r) st G M t) : mo_V κ k n pc (a0 :: a1 :: o :: o1 :: r) (mo_jv x :: st) G M t := mo_lstore_n X hd rfl (Or.inr ⟨_, rfl, hc⟩) hi kk
theorem mo_ii2 {a0 a1 : Option Value} {r : List (Option Value)} {v x : Int} (X : mo_Cx κ lf ρf cc nL own ret d) (hd : decode cc pc = .ok (.iinc 2 v, 3)) (hc : mo_c1 a1 = true) (hi : 2 < nL) (kk : mo_V κ k n (pc + 3) (a0 :: a1 :: some (mo_iv (x + v)) :: r) st G M t) : mo_V κ k n pc (a0 :: a1 :: some (mo_iv x) :: r) st G M t := mo_iinc X hd rfl (Or.inr ⟨_, rfl, hc⟩) hi kk
theorem mo_il3 {a0 a1 a2 : Option Value} {r : List (Option Value)} {x : Int} (X : mo_Cx κ lf ρf cc nL own ret d) (hd : decode cc pc = .ok (.iload_n 3, 1)) (kk : mo_V κ k n (pc + 1) (a0 :: a1 :: a2 :: some (mo_iv x) :: r) (mo_iv x :: st) G M t) : mo_V κ k n pc (a0 :: a1 :: a2 :: some (mo_iv x) :: r) st G M t := mo_iload_n X hd rfl kk
theorem mo_al3 {a0 a1 a2 : Option Value} {r : List (Option Value)} {x : Nat} (X : mo_Cx κ lf ρf cc nL own ret d) (hd : decode cc pc = .ok (.aload_n 3, 1)) (kk : mo_V κ k n (pc + 1) (a0 :: a1 :: a2 :: some (.ref x) :: r) (.ref x :: st) G M t) : mo_V κ k n pc (a0 :: a1 :: a2 :: some (.ref x) :: r) st G M t := mo_aload_n X hd rfl kk
theorem mo_ll3 {a0 a1 a2 : Option Value} {r : List (Option Value)} {x : Int} (X : mo_Cx κ lf ρf cc nL own ret d) (hd : decode cc pc = .ok (.lload_n 3, 1)) (kk : mo_V κ k n (pc + 1) (a0 :: a1 :: a2 :: some (mo_jv x) :: r) (mo_jv x :: st) G M t) : mo_V κ k n pc (a0 :: a1 :: a2 :: some (mo_jv x) :: r) st G M t := mo_lload_n X hd rfl kk
theorem mo_is3 {a0 a1 a2 : Option Value} {o : Option Value} {r : List (Option Value)} {x : Int} (X : mo_Cx κ lf ρf cc nL own ret d) (hd : decode cc pc = .ok (.istore_n 3, 1)) (hc : mo_c1 a2 = true) (hi : 3 < nL) (kk : mo_V κ k n (pc + 1) (a0 :: a1 :: a2 :: some (mo_iv x) :: r) st G M t) : mo_V κ k n pc (a0 :: a1 :: a2 :: o :: r) (mo_iv x :: st) G M t := mo_istore_n X hd rfl (Or.inr ⟨_, rfl, hc⟩) hi kk
theorem mo_as3 {a0 a1 a2 : Option Value} {o : Option Value} {r : List (Option Value)} {x : Nat} (X : mo_Cx κ lf ρf cc nL own ret d) (hd : decode cc pc = .ok (.astore_n 3, 1)) (hc : mo_c1 a2 = true) (hi : 3 < nL) (kk : mo_V κ k n (pc + 1) (a0 :: a1 :: a2 :: some (.ref x) :: r) st G M t) : mo_V κ k n pc (a0 :: a1 :: a2 :: o :: r) (.ref x :: st) G M t := mo_astore_n X hd rfl (Or.inr ⟨_, rfl, hc⟩) hi kk
theorem mo_ls3 {a0 a1 a2 : Option Value} {o o1 : Option Value} {r : List (Option Value)} {x : Int} (X : mo_Cx κ lf ρf cc nL own ret d) (hd : decode cc pc = .ok (.lstore_n 3, 1)) (hc : mo_c1 a2 = true) (hi : 3 + 1 < nL) (kk : mo_V κ k n (pc + 1) (a0 :: a1 :: a2 :: some (mo_jv x) :: none :: r) st G M t) : mo_V κ k n pc (a0 :: a1 :: a2 :: o :: o1 :: r) (mo_jv x :: st) G M t := mo_lstore_n X hd rfl (Or.inr ⟨_, rfl, hc⟩) hi kk
theorem mo_ii3 {a0 a1 a2 : Option Value} {r : List (Option Value)} {v x : Int} (X : mo_Cx κ lf ρf cc nL own ret d) (hd : decode cc pc = .ok (.iinc 3 v, 3)) (hc : mo_c1 a2 = true) (hi : 3 < nL) (kk : mo_V κ k n (pc + 3) (a0 :: a1 :: a2 :: some (mo_iv (x + v)) :: r) st G M t) : mo_V κ k n pc (a0 :: a1 :: a2 :: some (mo_iv x) :: r) st G M t := mo_iinc X hd rfl (Or.inr ⟨_, rfl, hc⟩) hi kk
theorem mo_il4 {a0 a1 a2 a3 : Option Value} {r : List (Option Value)} {x : Int} (X : mo_Cx κ lf ρf cc nL own ret d) (hd : decode cc pc = .ok (.iload 4, 2)) (kk : mo_V κ k n (pc + 2) (a0 :: a1 :: a2 :: a3 :: some (mo_iv x) :: r) (mo_iv x :: st) G M t) : mo_V κ k n pc (a0 :: a1 :: a2 :: a3 :: some (mo_iv x) :: r) st G M t := mo_iload X hd rfl kk
theorem mo_al4 {a0 a1 a2 a3 : Option Value} {r : List (Option Value)} {x : Nat} (X : mo_Cx κ lf ρf cc nL own ret d) (hd : decode cc pc = .ok (.aload 4, 2)) (kk : mo_V κ k n (pc + 2) (a0 :: a1 :: a2 :: a3 :: some (.ref x) :: r) (.ref x :: st) G M t) : mo_V κ k n pc (a0 :: a1 :: a2 :: a3 :: some (.ref x) :: r) st G M t := mo_aload X hd rfl kk
theorem mo_ll4 {a0 a1 a2 a3 : Option Value} {r : List (Option Value)} {x : Int} (X : mo_Cx κ lf ρf cc nL own ret d) (hd : decode cc pc = .ok (.lload 4, 2)) (kk : mo_V κ k n (pc + 2) (a0 :: a1 :: a2 :: a3 :: some (mo_jv x) :: r) (mo_jv x :: st) G M t) : mo_V κ k n pc (a0 :: a1 :: a2 :: a3 :: some (mo_jv x) :: r) st G M t := mo_lload X hd rfl kk
theorem mo_is4 {a0 a1 a2 a3 : Option Value} {o : Option Value} {r : List (Option Value)} {x : Int} (X : mo_Cx κ lf ρf cc nL own ret d) (hd : decode cc pc = .ok (.istore 4, 2)) (hc : mo_c1 a3 = true) (hi : 4 < nL) (kk : mo_V κ k n (pc + 2) (a0 :: a1 :: a2 :: a3 :: some (mo_iv x) :: r) st G M t) : mo_V κ k n pc (a0 :: a1 :: a2 :: a3 :: o :: r) (mo_iv x :: st) G M t := mo_istore X hd (Or.inr ⟨_, rfl, hc⟩) hi kk
theorem mo_as4 {a0 a1 a2 a3 : Option Value} {o : Option Value} {r : List (Option Value)} {x : Nat} (X : mo_Cx κ lf ρf cc nL own ret d) (hd : decode cc pc = .ok (.astore 4, 2)) (hc : mo_c1 a3 = true) (hi : 4 < nL) (kk : mo_V κ k n (pc + 2) (a0 :: a1 :: a2 :: a3 :: some (.ref x) :: r) st G M t) : mo_V κ k n pc (a0 :: a1 :: a2 :: a3 :: o :: r) (.ref x :: st) G M t := mo_astore X hd (Or.inr ⟨_, rfl, hc⟩) hi kk
theorem mo_ls4 {a0 a1 a2 a3 : Option Value} {o o1 : Option Value} {r : List (Option Value)} {x : Int} (X : mo_Cx κ lf ρf cc nL own ret d) (hd : decode cc pc = .ok (.lstore 4, 2)) (hc : mo_c1 a3 = true) (hi : 4 + 1 < nL) (kk : mo_V κ k n (pc + 2) (a0 :: a1 :: a2 :: a3 :: some (mo_jv x) :: none :: r) st G M t) : mo_V κ k n pc (a0 :: a1 :: a2 :: a3 :: o :: o1 :: r) (mo_jv x :: st) G M t := mo_lstore X hd (Or.inr ⟨_, rfl, hc⟩) hi kk
theorem mo_ii4 {a0 a1 a2 a3 : Option Value} {r : List (Option Value)} {v x : Int} (X : mo_Cx κ lf ρf cc nL own ret d) (hd : decode cc pc = .ok (.iinc 4 v, 3)) (hc : mo_c1 a3 = true) (hi : 4 < nL) (kk : mo_V κ k n (pc + 3) (a0 :: a1 :: a2 :: a3 :: some (mo_iv (x + v)) :: r) st G M t) : mo_V κ k n pc (a0 :: a1 :: a2 :: a3 :: some (mo_iv x) :: r) st G M t := mo_iinc X hd rfl (Or.inr ⟨_, rfl, hc⟩) hi kk
theorem mo_il5 {a0 a1 a2 a3 a4 : Option Value} {r : List (Option Value)} {x : Int} (X : mo_Cx κ lf ρf cc nL own ret d) (hd : decode cc pc = .ok (.iload 5, 2)) (kk : mo_V κ k n (pc + 2) (a0 :: a1 :: a2 :: a3 :: a4 :: some (mo_iv x) :: r) (mo_iv x :: st) G M t) : mo_V κ k n pc (a0 :: a1 :: a2 :: a3 :: a4 :: some (mo_iv x) :: r) st G M t := mo_iload X hd rfl kk
theorem mo_al5 {a0 a1 a2 a3 a4 : Option Value} {r : List (Option Value)} {x : Nat} (X : mo_Cx κ lf ρf cc nL own ret d) (hd : decode cc pc = .ok (.aload 5, 2)) (kk : mo_V κ k n (pc + 2) (a0 :: a1 :: a2 :: a3 :: a4 :: some (.ref x) :: r) (.ref x :: st) G M t) : mo_V κ k n pc (a0 :: a1 :: a2 :: a3 :: a4 :: some (.ref x) :: r) st G M t := mo_aload X hd rfl kk
theorem mo_ll5 {a0 a1 a2 a3 a4 : Option Value} {r : List (Option Value)} {x : Int} (X : mo_Cx κ lf ρf cc nL own ret d) (hd : decode cc pc = .ok (.lload 5, 2)) (kk : mo_V κ k n (pc + 2) (a0 :: a1 :: a2 :: a3 :: a4 :: some (mo_jv x) :: r) (mo_jv x :: st) G M t) : mo_V κ k n pc (a0 :: a1 :: a2 :: a3 :: a4 :: some (mo_jv x) :: r) st G M t := mo_lload X hd rfl kk
theorem mo_is5 {a0 a1 a2 a3 a4 : Option Value} {o : Option Value} {r : List (Option Value)} {x : Int} (X : mo_Cx κ lf ρf cc nL own ret d) (hd : decode cc pc = .ok (.istore 5, 2)) (hc : mo_c1 a4 = true) (hi : 5 < nL) (kk : mo_V κ k n (pc + 2) (a0 :: a1 :: a2 :: a3 :: a4 :: some (mo_iv x) :: r) st G M t) : mo_V κ k n pc (a0 :: a1 :: a2 :: a3 :: a4 :: o :: r) (mo_iv x :: st) G M t := mo_istore X hd (Or.inr ⟨_, rfl, hc⟩) hi kk
theorem mo_as5 {a0 a1 a2 a3 a4 : Option Value} {o : Option Value} {r : List (Option Value)} {x : Nat} (X : mo_Cx κ lf ρf cc nL own ret d) (hd : decode cc pc = .ok (.astore 5, 2)) (hc : mo_c1 a4 = true) (hi : 5 < nL) (kk : mo_V κ k n (pc + 2) (a0 :: a1 :: a2 :: a3 :: a4 :: some (.ref x) :: r) st G M t) : mo_V κ k n pc (a0 :: a1 :: a2 :: a3 :: a4 :: o :: r) (.ref x :: st) G M t := mo_astore X hd (Or.inr ⟨_, rfl, hc⟩) hi kk
theorem mo_ls5 {a0 a1 a2 a3 a4 : Option Value} {o o1 : Option Value} {r : List (Option Value)} {x : Int} (X : mo_Cx κ lf ρf cc nL own ret d) (hd : decode cc pc = .ok (.lstore 5, 2)) (hc : mo_c1 a4 = true) (hi : 5 + 1 < nL) (kk : mo_V κ k n (pc + 2) (a0 :: a1 :: a2 :: a3 :: a4 :: some (mo_jv x) :: none :: r) st G M t) : mo_V κ k n pc (a0 :: a1 :: a2 :: a3 :: a4 :: o :: o1 :: r) (mo_jv x :: st) G M t := mo_lstore X hd (Or.inr ⟨_, rfl, hc⟩) hi kk
theorem mo_ii5 {a0 a1 a2 a3 a4 : Option Value} {r : List (Option Value)} {v x : Int} (X : mo_Cx κ lf ρf cc nL own ret d) (hd : decode cc pc = .ok (.iinc 5 v, 3)) (hc : mo_c1 a4 = true) (hi : 5 < nL) (kk : mo_V κ k n (pc + 3) (a0 :: a1 :: a2 :: a3 :: a4 :: some (mo_iv (x + v)) :: r) st G M t) : mo_V κ k n pc (a0 :: a1 :: a2 :: a3 :: a4 :: some (mo_iv x) :: r) st G M t := mo_iinc X hd rfl (Or.inr ⟨_, rfl, hc⟩) hi kk
theorem mo_il6 {a0 a1 a2 a3 a4 a5 : Option Value} {r : List (Option Value)} {x : Int} (X : mo_Cx κ lf ρf cc nL own ret d) (hd : decode cc pc = .ok (.iload 6, 2)) (kk : mo_V κ k n (pc + 2) (a0 :: a1 :: a2 :: a3 :: a4 :: a5 :: some (mo_iv x) :: r) (mo_iv x :: st) G M t) : mo_V κ k n pc (a0 :: a1 :: a2 :: a3 :: a4 :: a5 :: some (mo_iv x) :: r) st G M t := mo_iload X hd rfl kk
theorem mo_al6 {a0 a1 a2 a3 a4 a5 : Option Value} {r : List (Option Value)} {x : Nat} (X : mo_Cx κ lf ρf cc nL own ret d) (hd : decode cc pc = .ok (.aload 6, 2)) (kk : mo_V κ k n (pc + 2) (a0 :: a1 :: a2 :: a3 :: a4 :: a5 :: some (.ref x) :: r) (.ref x :: st) G M t) : mo_V κ k n pc (a0 :: a1 :: a2 :: a3 :: a4 :: a5 :: some (.ref x) :: r) st G M t := mo_aload X hd rfl kk
theorem mo_ll6 {a0 a1 a2 a3 a4 a5 : Option Value} {r : List (Option Value)} {x : Int} (X : mo_Cx κ lf ρf cc nL own ret d) (hd : decode cc pc = .ok (.lload 6, 2)) (kk : mo_V κ k n (pc + 2) (a0 :: a1 :: a2 :: a3 :: a4 :: a5 :: some (mo_jv x) :: r) (mo_jv x :: st) G M t) : mo_V κ k n pc (a0 :: a1 :: a2 :: a3 :: a4 :: a5 :: some (mo_jv x) :: r) st G M t := mo_lload X hd rfl kk
theorem mo_is6 {a0 a1 a2 a3 a4 a5 : Option Value} {o : Option Value} {r : List (Option Value)} {x : Int} (X : mo_Cx κ lf ρf cc nL own ret d) (hd : decode cc pc = .ok (.istore 6, 2)) (hc : mo_c1 a5 = true) (hi : 6 < nL) (kk : mo_V κ k n (pc + 2) (a0 :: a1 :: a2 :: a3 :: a4 :: a5 :: some (mo_iv x) :: r) st G M t) : mo_V κ k n pc (a0 :: a1 :: a2 :: a3 :: a4 :: a5 :: o :: r) (mo_iv x :: st) G M t := mo_istore X hd (Or.inr ⟨_, rfl, hc⟩) hi kk
theorem mo_as6 {a0 a1 a2 a3 a4 a5 : Option Value} {o : Option Value} {r : List (Option Value)} {x : Nat} (X : mo_Cx κ lf ρf cc nL own ret d) (hd : decode cc pc = .ok (.astore 6, 2)) (hc : mo_c1 a5 = true) (hi : 6 < nL) (kk : mo_V κ k n (pc + 2) (a0 :: a1 :: a2 :: a3 :: a4 :: a5 :: some (.ref x) :: r) st G M t) : mo_V κ k n pc (a0 :: a1 :: a2 :: a3 :: a4 :: a5 :: o :: r) (.ref x :: st) G M t := mo_astore X hd (Or.inr ⟨_, rfl, hc⟩) hi kk
theorem mo_ls6 {a0 a1 a2 a3 a4 a5 : Option Value} {o o1 : Option Value} {r : List (Option Value)} {x : Int} (X : mo_Cx κ lf ρf cc nL own ret d) (hd : decode cc pc = .ok (.lstore 6, 2)) (hc : mo_c1 a5 = true) (hi : 6 + 1 < nL) (kk : mo_V κ k n (pc + 2) (a0 :: a1 :: a2 :: a3 :: a4 :: a5 :: some (mo_jv x) :: none :: r) st G M t) : mo_V κ k n pc (a0 :: a1 :: a2 :: a3 :: a4 :: a5 :: o :: o1 :: r) (mo_jv x :: st) G M t := mo_lstore X hd (Or.inr ⟨_, rfl, hc⟩) hi kk
theorem mo_ii6 {a0 a1 a2 a3 a4 a5 : Option Value} {r : List (Option Value)} {v x : Int} (X : mo_Cx κ lf ρf cc nL own ret d) (hd : decode cc pc = .ok (.iinc 6 v, 3)) (hc : mo_c1 a5 = true) (hi : 6 < nL) (kk : mo_V κ k n (pc + 3) (a0 :: a1 :: a2 :: a3 :: a4 :: a5 :: some (mo_iv (x + v)) :: r) st G M t) : mo_V κ k n pc (a0 :: a1 :: a2 :: a3 :: a4 :: a5 :: some (mo_iv x) :: r) st G M t := mo_iinc X hd rfl (Or.inr ⟨_, rfl, hc⟩) hi kk
theorem mo_il7 {a0 a1 a2 a3 a4 a5 a6 : Option Value} {r : List (Option Value)} {x : Int} (X : mo_Cx κ lf ρf cc nL own ret d) (hd : decode cc pc = .ok (.iload 7, 2)) (kk : mo_V κ k n (pc + 2) (a0 :: a1 :: a2 :: a3 :: a4 :: a5 :: a6 :: some (mo_iv x) :: r) (mo_iv x :: st) G M t) : mo_V κ k n pc (a0 :: a1 :: a2 :: a3 :: a4 :: a5 :: a6 :: some (mo_iv x) :: r) st G M t := mo_iload X hd rfl kk
theorem mo_al7 {a0 a1 a2 a3 a4 a5 a6 : Option Value} {r : List (Option Value)} {x : Nat} (X : mo_Cx κ lf ρf cc nL own ret d) (hd : decode cc pc = .ok (.aload 7, 2)) (kk : mo_V κ k n (pc + 2) (a0 :: a1 :: a2 :: a3 :: a4 :: a5 :: a6 :: some (.ref x) :: r) (.ref x :: st) G M t) : mo_V κ k n pc (a0 :: a1 :: a2 :: a3 :: a4 :: a5 :: a6 :: some (.ref x) :: r) st G M t := mo_aload X hd rfl kk
theorem mo_ll7 {a0 a1 a2 a3 a4 a5 a6 : Option Value} {r : List (Option Value)} {x : Int} (X : mo_Cx κ lf ρf cc nL own ret d) (hd : decode cc pc = .ok (.lload 7, 2)) (kk : mo_V κ k n (pc + 2) (a0 :: a1 :: a2 :: a3 :: a4 :: a5 :: a6 :: some (mo_jv x) :: r) (mo_jv x :: st) G M t) : mo_V κ k n pc (a0 :: a1 :: a2 :: a3 :: a4 :: a5 :: a6 :: some (mo_jv x) :: r) st G M t := mo_lload X hd rfl kk
theorem mo_is7 {a0 a1 a2 a3 a4 a5 a6 : Option Value} {o : Option Value} {r : List (Option Value)} {x : Int} (X : mo_Cx κ lf ρf cc nL own ret d) (hd : decode cc pc = .ok (.istore 7, 2)) (hc : mo_c1 a6 = true) (hi : 7 < nL) (kk : mo_V κ k n (pc + 2) (a0 :: a1 :: a2 :: a3 :: a4 :: a5 :: a6 :: some (mo_iv x) :: r) st G M t) : mo_V κ k n pc (a0 :: a1 :: a2 :: a3 :: a4 :: a5 :: a6 :: o :: r) (mo_iv x :: st) G M t := mo_istore X hd (Or.inr ⟨_, rfl, hc⟩) hi kk
theorem mo_as7 {a0 a1 a2 a3 a4 a5 a6 : Option Value} {o : Option Value} {r : List (Option Value)} {x : Nat} (X : mo_Cx κ lf ρf cc nL own ret d) (hd : decode cc pc = .ok (.astore 7, 2)) (hc : mo_c1 a6 = true) (hi : 7 < nL) (kk : mo_V κ k n (pc + 2) (a0 :: a1 :: a2 :: a3 :: a4 :: a5 :: a6 :: some (.ref x) :: r) st G M t) : mo_V κ k n pc (a0 :: a1 :: a2 :: a3 :: a4 :: a5 :: a6 :: o :: r) (.ref x :: st) G M t := mo_astore X hd (Or.inr ⟨_, rfl, hc⟩) hi kk
theorem mo_ls7 {a0 a1 a2 a3 a4 a5 a6 : Option Value} {o o1 : Option Value} {r : List (Option Value)} {x : Int} (X : mo_Cx κ lf ρf cc nL own ret d) (hd : decode cc pc = .ok (.lstore 7, 2)) (hc : mo_c1 a6 = true) (hi : 7 + 1 < nL) (kk : mo_V κ k n (pc + 2) (a0 :: a1 :: a2 :: a3 :: a4 :: a5 :: a6 :: some (mo_jv x) :: none :: r) st G M t) : mo_V κ k n pc (a0 :: a1 :: a2 :: a3 :: a4 :: a5 :: a6 :: o :: o1 :: r) (mo_jv x :: st) G M t := mo_lstore X hd (Or.inr ⟨_, rfl, hc⟩) hi kk
theorem mo_ii7 {a0 a1 a2 a3 a4 a5 a6 : Option Value} {r : List (Option Value)} {v x : Int} (X : mo_Cx κ lf ρf cc nL own ret d) (hd : decode cc pc = .ok (.iinc 7 v, 3)) (hc : mo_c1 a6 = true) (hi : 7 < nL) (kk : mo_V κ k n (pc + 3) (a0 :: a1 :: a2 :: a3 :: a4 :: a5 :: a6 :: some (mo_iv (x + v)) :: r) st G M t) : mo_V κ k n pc (a0 :: a1 :: a2 :: a3 :: a4 :: a5 :: a6 :: some (mo_iv x) :: r) st G M t := mo_iinc X hd rfl (Or.inr ⟨_, rfl, hc⟩) hi kk
theorem mo_il8 {a0 a1 a2 a3 a4 a5 a6 a7 : Option Value} {r : List (Option Value)} {x : Int} (X : mo_Cx κ lf ρf cc nL own ret d) (hd : decode cc pc = .ok (.iload 8, 2)) (kk : mo_V κ k n (pc + 2) (a0 :: a1 :: a2 :: a3 :: a4 :: a5 :: a6 :: a7 :: some (mo_iv x) :: r) (mo_iv x :: st) G M t) : mo_V κ k n pc (a0 :: a1 :: a2 :: a3 :: a4 :: a5 :: a6 :: a7 :: some (mo_iv x) :: r) st G M t := mo_iload X hd rfl kk
theorem mo_al8 {a0 a1 a2 a3 a4 a5 a6 a7 : Option Value} {r : List (Option Value)} {x : Nat} (X : mo_Cx κ lf ρf cc nL own ret d) (hd : decode cc pc = .ok (.aload 8, 2)) (kk : mo_V κ k n (pc + 2) (a0 :: a1 :: a2 :: a3 :: a4 :: a5 :: a6 :: a7 :: some (.ref x) :: r) (.ref x :: st) G M t) : mo_V κ k n pc (a0 :: a1 :: a2 :: a3 :: a4 :: a5 :: a6 :: a7 :: some (.ref x) :: r) st G M t := mo_aload X hd rfl kk
theorem mo_ll8 {a0 a1 a2 a3 a4 a5 a6 a7 : Option Value} {r : List (Option Value)} {x : Int} (X : mo_Cx κ lf ρf cc nL own ret d) (hd : decode cc pc = .ok (.lload 8, 2)) (kk : mo_V κ k n (pc + 2) (a0 :: a1 :: a2 :: a3 :: a4 :: a5 :: a6 :: a7 :: some (mo_jv x) :: r) (mo_jv x :: st) G M t) : mo_V κ k n pc (a0 :: a1 :: a2 :: a3 :: a4 :: a5 :: a6 :: a7 :: some (mo_jv x) :: r) st G M t := mo_lload X hd rfl kk
theorem mo_is8 {a0 a1 a2 a3 a4 a5 a6 a7 : Option Value} {o : Option Value} {r : List (Option Value)} {x : Int} (X : mo_Cx κ lf ρf cc nL own ret d) (hd : decode cc pc = .ok (.istore 8, 2)) (hc : mo_c1 a7 = true) (hi : 8 < nL) (kk : mo_V κ k n (pc + 2) (a0 :: a1 :: a2 :: a3 :: a4 :: a5 :: a6 :: a7 :: some (mo_iv x) :: r) st G M t) : mo_V κ k n pc (a0 :: a1 :: a2 :: a3 :: a4 :: a5 :: a6 :: a7 :: o :: r) (mo_iv x :: st) G M t := mo_istore X hd (Or.inr ⟨_, rfl, hc⟩) hi kk
theorem mo_as8 {a0 a1 a2 a3 a4 a5 a6 a7 : Option Value} {o : Option Value} {r : List (Option Value)} {x : Nat} (X : mo_Cx κ lf ρf cc nL own ret d) (hd : decode cc pc = .ok (.astore 8, 2)) (hc : mo_c1 a7 = true) (hi : 8 < nL) (kk : mo_V κ k n (pc + 2) (a0 :: a1 :: a2 :: a3 :: a4 :: a5 :: a6 :: a7 :: some (.ref x) :: r) st G M t) : mo_V κ k n pc (a0 :: a1 :: a2 :: a3 :: a4 :: a5 :: a6 :: a7 :: o :: r) (.ref x :: st) G M t := mo_astore X hd (Or.inr ⟨_, rfl, hc⟩) hi kk
theorem mo_ls8 {a0 a1 a2 a3 a4 a5 a6 a7 : Option Value} {o o1 : Option Value} {r : List (Option Value)} {x : Int} (X : mo_Cx κ lf ρf cc nL own ret d) (hd : decode cc pc = .ok (.lstore 8, 2)) (hc : mo_c1 a7 = true) (hi : 8 + 1 < nL) (kk : mo_V κ k n (pc + 2) (a0 :: a1 :: a2 :: a3 :: a4 :: a5 :: a6 :: a7 :: some (mo_jv x) :: none :: r) st G M t) : mo_V κ k n pc (a0 :: a1 :: a2 :: a3 :: a4 :: a5 :: a6 :: a7 :: o :: o1 :: r) (mo_jv x :: st) G M t := mo_lstore X hd (Or.inr ⟨_, rfl, hc⟩) hi kk
theorem mo_ii8 {a0 a1 a2 a3 a4 a5 a6 a7 : Option Value} {r : List (Option Value)} {v x : Int} (X : mo_Cx κ lf ρf cc nL own ret d) (hd : decode cc pc = .ok (.iinc 8 v, 3)) (hc : mo_c1 a7 = true) (hi : 8 < nL) (kk : mo_V κ k n (pc + 3) (a0 :: a1 :: a2 :: a3 :: a4 :: a5 :: a6 :: a7 :: some (mo_iv (x + v)) :: r) st G M t) : mo_V κ k n pc (a0 :: a1 :: a2 :: a3 :: a4 :: a5 :: a6 :: a7 :: some (mo_iv x) :: r) st G M t := mo_iinc X hd rfl (Or.inr ⟨_, rfl, hc⟩) hi kk
theorem mo_iadd (X : mo_Cx κ lf ρf cc nL own ret d) {x y : Int} (hd : decode cc pc = .ok (.iadd, 1)) (kk : mo_V κ k n (pc + 1) ls (mo_iv (x + y) :: st) G M t) : mo_V κ k n pc ls (mo_iv y :: mo_iv x :: st) G M t := by
  obtain ⟨⟨p, l, e, R, s⟩, ⟨m, args, below, meth, c⟩, Q, ρ⟩ := κ
  obtain ⟨hx, hb, hml, hown, hts, hK, hlk, hrt, hb0, hRf, hRl, hlf, hρ⟩ := X
  intro H locs lr ht hR hS hl
  exact lv_iadd hx hb hd (by rw [← Int32.ofInt_add]; exact kk H locs lr ht hR hS hl)
theorem mo_isub (X : mo_Cx κ lf ρf cc nL own ret d) {x y : Int} (hd : decode cc pc = .ok (.isub, 1)) (kk : mo_V κ k n (pc + 1) ls (mo_iv (x - y) :: st) G M t) : mo_V κ k n pc ls (mo_iv y :: mo_iv x :: st) G M t := by
  obtain ⟨⟨p, l, e, R, s⟩, ⟨m, args, below, meth, c⟩, Q, ρ⟩ := κ
  obtain ⟨hx, hb, hml, hown, hts, hK, hlk, hrt, hb0, hRf, hRl, hlf, hρ⟩ := X
  intro H locs lr ht hR hS hl
  exact lv_isub hx hb hd (by rw [← Int32.ofInt_sub]; exact kk H locs lr ht hR hS hl)
theorem mo_imul (X : mo_Cx κ lf ρf cc nL own ret d) {x y : Int} (hd : decode cc pc = .ok (.imul, 1)) (kk : mo_V κ k n (pc + 1) ls (mo_iv (x * y) :: st) G M t) : mo_V κ k n pc ls (mo_iv y :: mo_iv x :: st) G M t := by
  obtain ⟨⟨p, l, e, R, s⟩, ⟨m, args, below, meth, c⟩, Q, ρ⟩ := κ
  obtain ⟨hx, hb, hml, hown, hts, hK, hlk, hrt, hb0, hRf, hRl, hlf, hρ⟩ := X
  intro H locs lr ht hR hS hl
  exact lv_imul hx hb hd (by rw [← Int32.ofInt_mul]; exact kk H locs lr ht hR hS hl)
theorem mo_ineg (X : mo_Cx κ lf ρf cc nL own ret d) {x : Int} (hd : decode cc pc = .ok (.ineg, 1)) (kk : mo_V κ k n (pc + 1) ls (mo_iv (-x) :: st) G M t) : mo_V κ k n pc ls (mo_iv x :: st) G M t := by
  obtain ⟨⟨p, l, e, R, s⟩, ⟨m, args, below, meth, c⟩, Q, ρ⟩ := κ
  obtain ⟨hx, hb, hml, hown, hts, hK, hlk, hrt, hb0, hRf, hRl, hlf, hρ⟩ := X
  intro H locs lr ht hR hS hl
  exact lv_ineg hx hb hd (by rw [← Int32.ofInt_neg]; exact kk H locs lr ht hR hS hl)
theorem mo_divI {x y : Int} (hx : 0 ≤ x ∧ x < 2147483648) (hy : 0 < y ∧ y < 2147483648) : Int32.ofInt x / Int32.ofInt y = Int32.ofInt (x / y) := by
  obtain ⟨a, rfl⟩ := Int.eq_ofNat_of_zero_le hx.1
  obtain ⟨b, rfl⟩ := Int.eq_ofNat_of_zero_le (Int.le_of_lt hy.1)
  exact pk_div (a := a) (d := b) (by omega) (by omega) (by omega)
theorem mo_remI {x y : Int} (hx : 0 ≤ x ∧ x < 2147483648) (hy : 0 < y ∧ y < 2147483648) : Int32.ofInt x - Int32.ofInt x / Int32.ofInt y * Int32.ofInt y = Int32.ofInt (x % y) := by
  obtain ⟨a, rfl⟩ := Int.eq_ofNat_of_zero_le hx.1
  obtain ⟨b, rfl⟩ := Int.eq_ofNat_of_zero_le (Int.le_of_lt hy.1)
  exact pk_rem (a := a) (d := b) (by omega) (by omega) (by omega)
theorem mo_nz {y : Int} (hy : 0 < y ∧ y < 2147483648) : ¬ Int32.ofInt y = 0 := by
  rw [mo_0, mo_eq (by omega) (by omega)]
  omega
theorem mo_idiv (X : mo_Cx κ lf ρf cc nL own ret d) {x y : Int} (hd : decode cc pc = .ok (.idiv, 1)) (h1 : 0 ≤ x ∧ x < 2147483648) (h2 : 0 < y ∧ y < 2147483648) (kk : mo_V κ k n (pc + 1) ls (mo_iv (x / y) :: st) G M t) : mo_V κ k n pc ls (mo_iv y :: mo_iv x :: st) G M t := by
  obtain ⟨⟨p, l, e, R, s⟩, ⟨m, args, below, meth, c⟩, Q, ρ⟩ := κ
  obtain ⟨hx, hb, hml, hown, hts, hK, hlk, hrt, hb0, hRf, hRl, hlf, hρ⟩ := X
  intro H locs lr ht hR hS hl
  exact lv_idiv hx hb hd (mo_nz h2) (by rw [mo_divI h1 h2]; exact kk H locs lr ht hR hS hl)
theorem mo_irem (X : mo_Cx κ lf ρf cc nL own ret d) {x y : Int} (hd : decode cc pc = .ok (.irem, 1)) (h1 : 0 ≤ x ∧ x < 2147483648) (h2 : 0 < y ∧ y < 2147483648) (kk : mo_V κ k n (pc + 1) ls (mo_iv (x % y) :: st) G M t) : mo_V κ k n pc ls (mo_iv y :: mo_iv x :: st) G M t := by
  obtain ⟨⟨p, l, e, R, s⟩, ⟨m, args, below, meth, c⟩, Q, ρ⟩ := κ
  obtain ⟨hx, hb, hml, hown, hts, hK, hlk, hrt, hb0, hRf, hRl, hlf, hρ⟩ := X
  intro H locs lr ht hR hS hl
  exact lv_irem hx hb hd (mo_nz h2) (by rw [mo_remI h1 h2]; exact kk H locs lr ht hR hS hl)
def mo_and (x y : Int) : Int := (Int32.ofInt x &&& Int32.ofInt y).toInt
def mo_or (x y : Int) : Int := (Int32.ofInt x ||| Int32.ofInt y).toInt
def mo_xor (x y : Int) : Int := (Int32.ofInt x ^^^ Int32.ofInt y).toInt
def mo_shl (x y : Int) : Int := (Int32.ofInt x <<< (Int32.ofInt y &&& 31)).toInt
def mo_shr (x y : Int) : Int := (Int32.ofInt x >>> (Int32.ofInt y &&& 31)).toInt
def mo_lshl (x y : Int) : Int := (Int64.ofInt x <<< ((Int32.ofInt y).toInt64 &&& 63)).toInt
theorem mo_iand (X : mo_Cx κ lf ρf cc nL own ret d) {x y : Int} (hd : decode cc pc = .ok (.iand, 1)) (kk : mo_V κ k n (pc + 1) ls (mo_iv (mo_and x y) :: st) G M t) : mo_V κ k n pc ls (mo_iv y :: mo_iv x :: st) G M t := by
  obtain ⟨⟨p, l, e, R, s⟩, ⟨m, args, below, meth, c⟩, Q, ρ⟩ := κ
  obtain ⟨hx, hb, hml, hown, hts, hK, hlk, hrt, hb0, hRf, hRl, hlf, hρ⟩ := X
  intro H locs lr ht hR hS hl
  exact lv_iand hx hb hd (by have h := kk H locs lr ht hR hS hl; rw [mo_iv, mo_and, Int32.ofInt_toInt] at h; exact h)
theorem mo_ior (X : mo_Cx κ lf ρf cc nL own ret d) {x y : Int} (hd : decode cc pc = .ok (.ior, 1)) (kk : mo_V κ k n (pc + 1) ls (mo_iv (mo_or x y) :: st) G M t) : mo_V κ k n pc ls (mo_iv y :: mo_iv x :: st) G M t := by
  obtain ⟨⟨p, l, e, R, s⟩, ⟨m, args, below, meth, c⟩, Q, ρ⟩ := κ
  obtain ⟨hx, hb, hml, hown, hts, hK, hlk, hrt, hb0, hRf, hRl, hlf, hρ⟩ := X
  intro H locs lr ht hR hS hl
  exact lv_ior hx hb hd (by have h := kk H locs lr ht hR hS hl; rw [mo_iv, mo_or, Int32.ofInt_toInt] at h; exact h)
theorem mo_ixor (X : mo_Cx κ lf ρf cc nL own ret d) {x y : Int} (hd : decode cc pc = .ok (.ixor, 1)) (kk : mo_V κ k n (pc + 1) ls (mo_iv (mo_xor x y) :: st) G M t) : mo_V κ k n pc ls (mo_iv y :: mo_iv x :: st) G M t := by
  obtain ⟨⟨p, l, e, R, s⟩, ⟨m, args, below, meth, c⟩, Q, ρ⟩ := κ
  obtain ⟨hx, hb, hml, hown, hts, hK, hlk, hrt, hb0, hRf, hRl, hlf, hρ⟩ := X
  intro H locs lr ht hR hS hl
  exact lv_ixor hx hb hd (by have h := kk H locs lr ht hR hS hl; rw [mo_iv, mo_xor, Int32.ofInt_toInt] at h; exact h)
theorem mo_ishl (X : mo_Cx κ lf ρf cc nL own ret d) {x y : Int} (hd : decode cc pc = .ok (.ishl, 1)) (kk : mo_V κ k n (pc + 1) ls (mo_iv (mo_shl x y) :: st) G M t) : mo_V κ k n pc ls (mo_iv y :: mo_iv x :: st) G M t := by
  obtain ⟨⟨p, l, e, R, s⟩, ⟨m, args, below, meth, c⟩, Q, ρ⟩ := κ
  obtain ⟨hx, hb, hml, hown, hts, hK, hlk, hrt, hb0, hRf, hRl, hlf, hρ⟩ := X
  intro H locs lr ht hR hS hl
  exact lv_ishl hx hb hd (by have h := kk H locs lr ht hR hS hl; rw [mo_iv, mo_shl, Int32.ofInt_toInt] at h; exact h)
theorem mo_ishr (X : mo_Cx κ lf ρf cc nL own ret d) {x y : Int} (hd : decode cc pc = .ok (.ishr, 1)) (kk : mo_V κ k n (pc + 1) ls (mo_iv (mo_shr x y) :: st) G M t) : mo_V κ k n pc ls (mo_iv y :: mo_iv x :: st) G M t := by
  obtain ⟨⟨p, l, e, R, s⟩, ⟨m, args, below, meth, c⟩, Q, ρ⟩ := κ
  obtain ⟨hx, hb, hml, hown, hts, hK, hlk, hrt, hb0, hRf, hRl, hlf, hρ⟩ := X
  intro H locs lr ht hR hS hl
  exact lv_ishr hx hb hd (by have h := kk H locs lr ht hR hS hl; rw [mo_iv, mo_shr, Int32.ofInt_toInt] at h; exact h)
theorem mo_i2l (X : mo_Cx κ lf ρf cc nL own ret d) {x : Int} (hd : decode cc pc = .ok (.i2l, 1)) (h1 : mo_In x) (kk : mo_V κ k n (pc + 1) ls (mo_jv x :: st) G M t) : mo_V κ k n pc ls (mo_iv x :: st) G M t := by
  obtain ⟨⟨p, l, e, R, s⟩, ⟨m, args, below, meth, c⟩, Q, ρ⟩ := κ
  obtain ⟨hx, hb, hml, hown, hts, hK, hlk, hrt, hb0, hRf, hRl, hlf, hρ⟩ := X
  intro H locs lr ht hR hS hl
  exact lv_i2l hx hb hd (by rw [← Int64.toInt_inj, Int32.toInt_toInt64, mo_ti h1, mo_tl (by omega)]) (kk H locs lr ht hR hS hl)
theorem mo_ladd (X : mo_Cx κ lf ρf cc nL own ret d) {x y : Int} (hd : decode cc pc = .ok (.ladd, 1)) (kk : mo_V κ k n (pc + 1) ls (mo_jv (x + y) :: st) G M t) : mo_V κ k n pc ls (mo_jv y :: mo_jv x :: st) G M t := by
  obtain ⟨⟨p, l, e, R, s⟩, ⟨m, args, below, meth, c⟩, Q, ρ⟩ := κ
  obtain ⟨hx, hb, hml, hown, hts, hK, hlk, hrt, hb0, hRf, hRl, hlf, hρ⟩ := X
  intro H locs lr ht hR hS hl
  exact lv_ladd hx hb hd (by rw [← Int64.ofInt_add]; exact kk H locs lr ht hR hS hl)
theorem mo_lsub (X : mo_Cx κ lf ρf cc nL own ret d) {x y : Int} (hd : decode cc pc = .ok (.lsub, 1)) (kk : mo_V κ k n (pc + 1) ls (mo_jv (x - y) :: st) G M t) : mo_V κ k n pc ls (mo_jv y :: mo_jv x :: st) G M t := by
  obtain ⟨⟨p, l, e, R, s⟩, ⟨m, args, below, meth, c⟩, Q, ρ⟩ := κ
  obtain ⟨hx, hb, hml, hown, hts, hK, hlk, hrt, hb0, hRf, hRl, hlf, hρ⟩ := X
  intro H locs lr ht hR hS hl
  exact lv_lsub hx hb hd (by rw [← Int64.ofInt_sub]; exact kk H locs lr ht hR hS hl)
theorem mo_lmul (X : mo_Cx κ lf ρf cc nL own ret d) {x y : Int} (hd : decode cc pc = .ok (.lmul, 1)) (kk : mo_V κ k n (pc + 1) ls (mo_jv (x * y) :: st) G M t) : mo_V κ k n pc ls (mo_jv y :: mo_jv x :: st) G M t := by
  obtain ⟨⟨p, l, e, R, s⟩, ⟨m, args, below, meth, c⟩, Q, ρ⟩ := κ
  obtain ⟨hx, hb, hml, hown, hts, hK, hlk, hrt, hb0, hRf, hRl, hlf, hρ⟩ := X
  intro H locs lr ht hR hS hl
  exact lv_lmul hx hb hd (by rw [← Int64.ofInt_mul]; exact kk H locs lr ht hR hS hl)
theorem mo_lsh (X : mo_Cx κ lf ρf cc nL own ret d) {x y : Int} (hd : decode cc pc = .ok (.lshl, 1)) (kk : mo_V κ k n (pc + 1) ls (mo_jv (mo_lshl x y) :: st) G M t) : mo_V κ k n pc ls (mo_iv y :: mo_jv x :: st) G M t := by
  obtain ⟨⟨p, l, e, R, s⟩, ⟨m, args, below, meth, c⟩, Q, ρ⟩ := κ
  obtain ⟨hx, hb, hml, hown, hts, hK, hlk, hrt, hb0, hRf, hRl, hlf, hρ⟩ := X
  intro H locs lr ht hR hS hl
  exact lv_lshl hx hb hd (by rw [mo_lshl, Int64.ofInt_toInt]) (kk H locs lr ht hR hS hl)
def mo_cmp (x y : Int) : Int := if y < x then 1 else if x = y then 0 else -1
theorem mo_cmpL {x y : Int} (h1 : mo_Jn x) (h2 : mo_Jn y) : lg_cmp (Int64.ofInt x) (Int64.ofInt y) = Int32.ofInt (mo_cmp x y) := by
  unfold lg_cmp mo_cmp
  have e1 : (Int64.ofInt x > Int64.ofInt y) ↔ y < x := by
    show Int64.ofInt y < Int64.ofInt x ↔ _
    rw [Int64.lt_iff_toInt_lt, mo_tl h1, mo_tl h2]
  have e2 : (Int64.ofInt x = Int64.ofInt y) ↔ x = y := by rw [← Int64.toInt_inj, mo_tl h1, mo_tl h2]
  by_cases c1 : y < x
  · rw [if_pos (e1.mpr c1), if_pos c1]; decide
  · rw [if_neg (fun h => c1 (e1.mp h)), if_neg c1]
    by_cases c2 : x = y
    · rw [if_pos (e2.mpr c2), if_pos c2]; decide
    · rw [if_neg (fun h => c2 (e2.mp h)), if_neg c2]; decide
theorem mo_cmpS (x : Int) : lg_cmp (Int64.ofInt x) (Int64.ofInt x) = Int32.ofInt 0 := by
  unfold lg_cmp
  rw [if_neg (show ¬ Int64.ofInt x > Int64.ofInt x from Int64.lt_irrefl), if_pos rfl]; decide
theorem mo_lcmp (X : mo_Cx κ lf ρf cc nL own ret d) {x y : Int} (hd : decode cc pc = .ok (.lcmp, 1)) (h1 : mo_Jn x) (h2 : mo_Jn y) (kk : mo_V κ k n (pc + 1) ls (mo_iv (mo_cmp x y) :: st) G M t) : mo_V κ k n pc ls (mo_jv y :: mo_jv x :: st) G M t := by
  obtain ⟨⟨p, l, e, R, s⟩, ⟨m, args, below, meth, c⟩, Q, ρ⟩ := κ
  obtain ⟨hx, hb, hml, hown, hts, hK, hlk, hrt, hb0, hRf, hRl, hlf, hρ⟩ := X
  intro H locs lr ht hR hS hl
  exact W.lcmp hx hb hd (by rw [mo_cmpL h1 h2]; exact kk H locs lr ht hR hS hl)
theorem mo_lcmpS (X : mo_Cx κ lf ρf cc nL own ret d) {x : Int} (hd : decode cc pc = .ok (.lcmp, 1)) (kk : mo_V κ k n (pc + 1) ls (mo_iv 0 :: st) G M t) : mo_V κ k n pc ls (mo_jv x :: mo_jv x :: st) G M t := by
  obtain ⟨⟨p, l, e, R, s⟩, ⟨m, args, below, meth, c⟩, Q, ρ⟩ := κ
  obtain ⟨hx, hb, hml, hown, hts, hK, hlk, hrt, hb0, hRf, hRl, hlf, hρ⟩ := X
  intro H locs lr ht hR hS hl
  exact W.lcmp hx hb hd (by rw [mo_cmpS]; exact kk H locs lr ht hR hS hl)
theorem mo_if_eq (X : mo_Cx κ lf ρf cc nL own ret d) {x : Int} {off : Int} {tgt : Nat} (hd : decode cc pc = .ok (.ifCond .eq off, 3)) (ht : (pc : Int) + off = (tgt : Int)) (hx0 : mo_In x) (kt : x = 0 → mo_V κ k n tgt ls st G M t) (kf : x ≠ 0 → mo_V κ k n (pc + 3) ls st G M t) : mo_V κ k n pc ls (mo_iv x :: st) G M t := by
  obtain ⟨⟨p, l, e, R, s⟩, ⟨m, args, below, meth, c⟩, Q, ρ⟩ := κ
  obtain ⟨hx, hb, hml, hown, hts, hK, hlk, hrt, hb0, hRf, hRl, hlf, hρ⟩ := X
  intro H locs lr hsz hR hS hl
  exact lv_if_eq hx hb hd ht (fun h => kt (by rw [mo_0, mo_eq hx0 (by omega : mo_In 0)] at h; exact h) H locs lr hsz hR hS hl) (fun h => kf (by rw [mo_0, mo_eq hx0 (by omega : mo_In 0)] at h; exact h) H locs lr hsz hR hS hl)
theorem mo_if_ne (X : mo_Cx κ lf ρf cc nL own ret d) {x : Int} {off : Int} {tgt : Nat} (hd : decode cc pc = .ok (.ifCond .ne off, 3)) (ht : (pc : Int) + off = (tgt : Int)) (hx0 : mo_In x) (kt : x ≠ 0 → mo_V κ k n tgt ls st G M t) (kf : x = 0 → mo_V κ k n (pc + 3) ls st G M t) : mo_V κ k n pc ls (mo_iv x :: st) G M t := by
  obtain ⟨⟨p, l, e, R, s⟩, ⟨m, args, below, meth, c⟩, Q, ρ⟩ := κ
  obtain ⟨hx, hb, hml, hown, hts, hK, hlk, hrt, hb0, hRf, hRl, hlf, hρ⟩ := X
  intro H locs lr hsz hR hS hl
  exact lv_if_ne hx hb hd ht (fun h => kt (by rw [mo_0, mo_eq hx0 (by omega : mo_In 0)] at h; exact h) H locs lr hsz hR hS hl) (fun h => kf (by rw [mo_0, mo_eq hx0 (by omega : mo_In 0)] at h; omega) H locs lr hsz hR hS hl)
theorem mo_if_lt (X : mo_Cx κ lf ρf cc nL own ret d) {x : Int} {off : Int} {tgt : Nat} (hd : decode cc pc = .ok (.ifCond .lt off, 3)) (ht : (pc : Int) + off = (tgt : Int)) (hx0 : mo_In x) (kt : x < 0 → mo_V κ k n tgt ls st G M t) (kf : 0 ≤ x → mo_V κ k n (pc + 3) ls st G M t) : mo_V κ k n pc ls (mo_iv x :: st) G M t := by
  obtain ⟨⟨p, l, e, R, s⟩, ⟨m, args, below, meth, c⟩, Q, ρ⟩ := κ
  obtain ⟨hx, hb, hml, hown, hts, hK, hlk, hrt, hb0, hRf, hRl, hlf, hρ⟩ := X
  intro H locs lr hsz hR hS hl
  exact lv_if_lt hx hb hd ht (fun h => kt (by rw [mo_0, mo_lt hx0 (by omega : mo_In 0)] at h; exact h) H locs lr hsz hR hS hl) (fun h => kf (by rw [mo_0, mo_lt hx0 (by omega : mo_In 0)] at h; omega) H locs lr hsz hR hS hl)
theorem mo_if_ge (X : mo_Cx κ lf ρf cc nL own ret d) {x : Int} {off : Int} {tgt : Nat} (hd : decode cc pc = .ok (.ifCond .ge off, 3)) (ht : (pc : Int) + off = (tgt : Int)) (hx0 : mo_In x) (kt : 0 ≤ x → mo_V κ k n tgt ls st G M t) (kf : x < 0 → mo_V κ k n (pc + 3) ls st G M t) : mo_V κ k n pc ls (mo_iv x :: st) G M t := by
  obtain ⟨⟨p, l, e, R, s⟩, ⟨m, args, below, meth, c⟩, Q, ρ⟩ := κ
  obtain ⟨hx, hb, hml, hown, hts, hK, hlk, hrt, hb0, hRf, hRl, hlf, hρ⟩ := X
  intro H locs lr hsz hR hS hl
  exact lv_if_ge hx hb hd ht (fun h => kt (by rw [mo_0, mo_le (by omega : mo_In 0) hx0] at h; exact h) H locs lr hsz hR hS hl) (fun h => kf (by rw [mo_0, mo_le (by omega : mo_In 0) hx0] at h; omega) H locs lr hsz hR hS hl)
theorem mo_if_gt (X : mo_Cx κ lf ρf cc nL own ret d) {x : Int} {off : Int} {tgt : Nat} (hd : decode cc pc = .ok (.ifCond .gt off, 3)) (ht : (pc : Int) + off = (tgt : Int)) (hx0 : mo_In x) (kt : 0 < x → mo_V κ k n tgt ls st G M t) (kf : x ≤ 0 → mo_V κ k n (pc + 3) ls st G M t) : mo_V κ k n pc ls (mo_iv x :: st) G M t := by
  obtain ⟨⟨p, l, e, R, s⟩, ⟨m, args, below, meth, c⟩, Q, ρ⟩ := κ
  obtain ⟨hx, hb, hml, hown, hts, hK, hlk, hrt, hb0, hRf, hRl, hlf, hρ⟩ := X
  intro H locs lr hsz hR hS hl
  exact lv_if_gt hx hb hd ht (fun h => kt (by rw [mo_0, mo_lt (by omega : mo_In 0) hx0] at h; exact h) H locs lr hsz hR hS hl) (fun h => kf (by rw [mo_0, mo_lt (by omega : mo_In 0) hx0] at h; omega) H locs lr hsz hR hS hl)
theorem mo_if_le (X : mo_Cx κ lf ρf cc nL own ret d) {x : Int} {off : Int} {tgt : Nat} (hd : decode cc pc = .ok (.ifCond .le off, 3)) (ht : (pc : Int) + off = (tgt : Int)) (hx0 : mo_In x) (kt : x ≤ 0 → mo_V κ k n tgt ls st G M t) (kf : 0 < x → mo_V κ k n (pc + 3) ls st G M t) : mo_V κ k n pc ls (mo_iv x :: st) G M t := by
  obtain ⟨⟨p, l, e, R, s⟩, ⟨m, args, below, meth, c⟩, Q, ρ⟩ := κ
  obtain ⟨hx, hb, hml, hown, hts, hK, hlk, hrt, hb0, hRf, hRl, hlf, hρ⟩ := X
  intro H locs lr hsz hR hS hl
  exact lv_if_le hx hb hd ht (fun h => kt (by rw [mo_0, mo_le hx0 (by omega : mo_In 0)] at h; exact h) H locs lr hsz hR hS hl) (fun h => kf (by rw [mo_0, mo_le hx0 (by omega : mo_In 0)] at h; omega) H locs lr hsz hR hS hl)
theorem mo_ic_eq (X : mo_Cx κ lf ρf cc nL own ret d) {x y : Int} {off : Int} {tgt : Nat} (hd : decode cc pc = .ok (.if_icmp .eq off, 3)) (ht : (pc : Int) + off = (tgt : Int)) (hx0 : mo_In x) (hy0 : mo_In y) (kt : x = y → mo_V κ k n tgt ls st G M t) (kf : x ≠ y → mo_V κ k n (pc + 3) ls st G M t) : mo_V κ k n pc ls (mo_iv y :: mo_iv x :: st) G M t := by
  obtain ⟨⟨p, l, e, R, s⟩, ⟨m, args, below, meth, c⟩, Q, ρ⟩ := κ
  obtain ⟨hx, hb, hml, hown, hts, hK, hlk, hrt, hb0, hRf, hRl, hlf, hρ⟩ := X
  intro H locs lr hsz hR hS hl
  exact lv_icmp_eq hx hb hd ht (fun h => kt (by rw [mo_eq hx0 hy0] at h; exact h) H locs lr hsz hR hS hl) (fun h => kf (by rw [mo_eq hx0 hy0] at h; exact h) H locs lr hsz hR hS hl)
theorem mo_ic_ne (X : mo_Cx κ lf ρf cc nL own ret d) {x y : Int} {off : Int} {tgt : Nat} (hd : decode cc pc = .ok (.if_icmp .ne off, 3)) (ht : (pc : Int) + off = (tgt : Int)) (hx0 : mo_In x) (hy0 : mo_In y) (kt : x ≠ y → mo_V κ k n tgt ls st G M t) (kf : x = y → mo_V κ k n (pc + 3) ls st G M t) : mo_V κ k n pc ls (mo_iv y :: mo_iv x :: st) G M t := by
  obtain ⟨⟨p, l, e, R, s⟩, ⟨m, args, below, meth, c⟩, Q, ρ⟩ := κ
  obtain ⟨hx, hb, hml, hown, hts, hK, hlk, hrt, hb0, hRf, hRl, hlf, hρ⟩ := X
  intro H locs lr hsz hR hS hl
  exact lv_icmp_ne hx hb hd ht (fun h => kt (by rw [mo_eq hx0 hy0] at h; exact h) H locs lr hsz hR hS hl) (fun h => kf (by rw [mo_eq hx0 hy0] at h; omega) H locs lr hsz hR hS hl)
theorem mo_ic_lt (X : mo_Cx κ lf ρf cc nL own ret d) {x y : Int} {off : Int} {tgt : Nat} (hd : decode cc pc = .ok (.if_icmp .lt off, 3)) (ht : (pc : Int) + off = (tgt : Int)) (hx0 : mo_In x) (hy0 : mo_In y) (kt : x < y → mo_V κ k n tgt ls st G M t) (kf : y ≤ x → mo_V κ k n (pc + 3) ls st G M t) : mo_V κ k n pc ls (mo_iv y :: mo_iv x :: st) G M t := by
  obtain ⟨⟨p, l, e, R, s⟩, ⟨m, args, below, meth, c⟩, Q, ρ⟩ := κ
  obtain ⟨hx, hb, hml, hown, hts, hK, hlk, hrt, hb0, hRf, hRl, hlf, hρ⟩ := X
  intro H locs lr hsz hR hS hl
  exact lv_icmp_lt hx hb hd ht (fun h => kt (by rw [mo_lt hx0 hy0] at h; exact h) H locs lr hsz hR hS hl) (fun h => kf (by rw [mo_lt hx0 hy0] at h; omega) H locs lr hsz hR hS hl)
theorem mo_ic_ge (X : mo_Cx κ lf ρf cc nL own ret d) {x y : Int} {off : Int} {tgt : Nat} (hd : decode cc pc = .ok (.if_icmp .ge off, 3)) (ht : (pc : Int) + off = (tgt : Int)) (hx0 : mo_In x) (hy0 : mo_In y) (kt : y ≤ x → mo_V κ k n tgt ls st G M t) (kf : x < y → mo_V κ k n (pc + 3) ls st G M t) : mo_V κ k n pc ls (mo_iv y :: mo_iv x :: st) G M t := by
  obtain ⟨⟨p, l, e, R, s⟩, ⟨m, args, below, meth, c⟩, Q, ρ⟩ := κ
  obtain ⟨hx, hb, hml, hown, hts, hK, hlk, hrt, hb0, hRf, hRl, hlf, hρ⟩ := X
  intro H locs lr hsz hR hS hl
  exact lv_icmp_ge hx hb hd ht (fun h => kt (by rw [mo_le hy0 hx0] at h; exact h) H locs lr hsz hR hS hl) (fun h => kf (by rw [mo_le hy0 hx0] at h; omega) H locs lr hsz hR hS hl)
theorem mo_ic_gt (X : mo_Cx κ lf ρf cc nL own ret d) {x y : Int} {off : Int} {tgt : Nat} (hd : decode cc pc = .ok (.if_icmp .gt off, 3)) (ht : (pc : Int) + off = (tgt : Int)) (hx0 : mo_In x) (hy0 : mo_In y) (kt : y < x → mo_V κ k n tgt ls st G M t) (kf : x ≤ y → mo_V κ k n (pc + 3) ls st G M t) : mo_V κ k n pc ls (mo_iv y :: mo_iv x :: st) G M t := by
  obtain ⟨⟨p, l, e, R, s⟩, ⟨m, args, below, meth, c⟩, Q, ρ⟩ := κ
  obtain ⟨hx, hb, hml, hown, hts, hK, hlk, hrt, hb0, hRf, hRl, hlf, hρ⟩ := X
  intro H locs lr hsz hR hS hl
  exact lv_icmp_gt hx hb hd ht (fun h => kt (by rw [mo_lt hy0 hx0] at h; exact h) H locs lr hsz hR hS hl) (fun h => kf (by rw [mo_lt hy0 hx0] at h; omega) H locs lr hsz hR hS hl)
theorem mo_ic_le (X : mo_Cx κ lf ρf cc nL own ret d) {x y : Int} {off : Int} {tgt : Nat} (hd : decode cc pc = .ok (.if_icmp .le off, 3)) (ht : (pc : Int) + off = (tgt : Int)) (hx0 : mo_In x) (hy0 : mo_In y) (kt : x ≤ y → mo_V κ k n tgt ls st G M t) (kf : y < x → mo_V κ k n (pc + 3) ls st G M t) : mo_V κ k n pc ls (mo_iv y :: mo_iv x :: st) G M t := by
  obtain ⟨⟨p, l, e, R, s⟩, ⟨m, args, below, meth, c⟩, Q, ρ⟩ := κ
  obtain ⟨hx, hb, hml, hown, hts, hK, hlk, hrt, hb0, hRf, hRl, hlf, hρ⟩ := X
  intro H locs lr hsz hR hS hl
  exact lv_icmp_le hx hb hd ht (fun h => kt (by rw [mo_le hx0 hy0] at h; exact h) H locs lr hsz hR hS hl) (fun h => kf (by rw [mo_le hx0 hy0] at h; omega) H locs lr hsz hR hS hl)
theorem mo_goto (X : mo_Cx κ lf ρf cc nL own ret d) {off : Int} {tgt : Nat} (hd : decode cc pc = .ok (.goto off, 3)) (htg : (pc : Int) + off = (tgt : Int)) (kk : mo_V κ k n tgt ls st G M t) : mo_V κ k n pc ls st G M t := by
  obtain ⟨⟨p, l, e, R, s⟩, ⟨m, args, below, meth, c⟩, Q, ρ⟩ := κ
  obtain ⟨hx, hb, hml, hown, hts, hK, hlk, hrt, hb0, hRf, hRl, hlf, hρ⟩ := X
  intro H locs lr ht hR hS hl
  exact lv_goto hx hb hd htg (kk H locs lr ht hR hS hl)
theorem mo_ifnull (X : mo_Cx κ lf ρf cc nL own ret d) {x : Nat} {off : Int} (hd : decode cc pc = .ok (.ifnull off, 3)) (kk : mo_V κ k n (pc + 3) ls st G M t) : mo_V κ k n pc ls (.ref x :: st) G M t := by
  obtain ⟨⟨p, l, e, R, s⟩, ⟨m, args, below, meth, c⟩, Q, ρ⟩ := κ
  obtain ⟨hx, hb, hml, hown, hts, hK, hlk, hrt, hb0, hRf, hRl, hlf, hρ⟩ := X
  intro H locs lr ht hR hS hl
  exact lv_ifnull hx hb hd (kk H locs lr ht hR hS hl)
theorem mo_ifnonnull (X : mo_Cx κ lf ρf cc nL own ret d) {x : Nat} {off : Int} {tgt : Nat} (hd : decode cc pc = .ok (.ifnonnull off, 3)) (htg : (pc : Int) + off = (tgt : Int)) (kk : mo_V κ k n tgt ls st G M t) : mo_V κ k n pc ls (.ref x :: st) G M t := by
  obtain ⟨⟨p, l, e, R, s⟩, ⟨m, args, below, meth, c⟩, Q, ρ⟩ := κ
  obtain ⟨hx, hb, hml, hown, hts, hK, hlk, hrt, hb0, hRf, hRl, hlf, hρ⟩ := X
  intro H locs lr ht hR hS hl
  exact lv_ifnonnull hx hb hd htg (kk H locs lr ht hR hS hl)
theorem mo_dup (X : mo_Cx κ lf ρf cc nL own ret d) {v : Value} (hd : decode cc pc = .ok (.dup, 1)) (hv : v.category = 1) (kk : mo_V κ k n (pc + 1) ls (v :: v :: st) G M t) : mo_V κ k n pc ls (v :: st) G M t := by
  obtain ⟨⟨p, l, e, R, s⟩, ⟨m, args, below, meth, c⟩, Q, ρ⟩ := κ
  obtain ⟨hx, hb, hml, hown, hts, hK, hlk, hrt, hb0, hRf, hRl, hlf, hρ⟩ := X
  intro H locs lr ht hR hS hl
  exact lv_dup hx hb hd hv (kk H locs lr ht hR hS hl)
theorem mo_pop (X : mo_Cx κ lf ρf cc nL own ret d) {v : Value} (hd : decode cc pc = .ok (.pop, 1)) (hv : v.category = 1) (kk : mo_V κ k n (pc + 1) ls st G M t) : mo_V κ k n pc ls (v :: st) G M t := by
  obtain ⟨⟨p, l, e, R, s⟩, ⟨m, args, below, meth, c⟩, Q, ρ⟩ := κ
  obtain ⟨hx, hb, hml, hown, hts, hK, hlk, hrt, hb0, hRf, hRl, hlf, hρ⟩ := X
  intro H locs lr ht hR hS hl
  exact lv_pop hx hb hd hv (kk H locs lr ht hR hS hl)
theorem mo_dup2 (X : mo_Cx κ lf ρf cc nL own ret d) {v z : Value} (hd : decode cc pc = .ok (.dup2, 1)) (hv : v.category = 1) (hz : z.category = 1) (kk : mo_V κ k n (pc + 1) ls (v :: z :: v :: z :: st) G M t) : mo_V κ k n pc ls (v :: z :: st) G M t := by
  obtain ⟨⟨p, l, e, R, s⟩, ⟨m, args, below, meth, c⟩, Q, ρ⟩ := κ
  obtain ⟨hx, hb, hml, hown, hts, hK, hlk, hrt, hb0, hRf, hRl, hlf, hρ⟩ := X
  intro H locs lr ht hR hS hl
  exact lv_dup2_11 hx hb hd hv hz (kk H locs lr ht hR hS hl)
end MOR
end
section
/-! THE V LAYER, second half: fields, arrays, calls, ends -/
theorem mo_tb1 {w : Cond} (i : Nat) (h : tables_1_1[i]? = some w) (g : goodWord w = true) : w ∈ mo_B := List.mem_filter.mpr ⟨List.mem_append_right _ (show w ∈ tables_1_1 ++ (tables_1_2 ++ (tables_1_3 ++ (tables_1_4 ++ (tables_1_5 ++ tables_1_6)))) from List.mem_append_left _ (List.mem_of_getElem? h)), g⟩
theorem mo_tb2 {w : Cond} (i : Nat) (h : tables_1_2[i]? = some w) (g : goodWord w = true) : w ∈ mo_B := List.mem_filter.mpr ⟨List.mem_append_right _ (show w ∈ tables_1_1 ++ (tables_1_2 ++ (tables_1_3 ++ (tables_1_4 ++ (tables_1_5 ++ tables_1_6)))) from List.mem_append_right _ (List.mem_append_left _ (List.mem_of_getElem? h))), g⟩
theorem mo_tb3 {w : Cond} (i : Nat) (h : tables_1_3[i]? = some w) (g : goodWord w = true) : w ∈ mo_B := List.mem_filter.mpr ⟨List.mem_append_right _ (show w ∈ tables_1_1 ++ (tables_1_2 ++ (tables_1_3 ++ (tables_1_4 ++ (tables_1_5 ++ tables_1_6)))) from List.mem_append_right _ (List.mem_append_right _ (List.mem_append_left _ (List.mem_of_getElem? h)))), g⟩
theorem mo_tb4 {w : Cond} (i : Nat) (h : tables_1_4[i]? = some w) (g : goodWord w = true) : w ∈ mo_B := List.mem_filter.mpr ⟨List.mem_append_right _ (show w ∈ tables_1_1 ++ (tables_1_2 ++ (tables_1_3 ++ (tables_1_4 ++ (tables_1_5 ++ tables_1_6)))) from List.mem_append_right _ (List.mem_append_right _ (List.mem_append_right _ (List.mem_append_left _ (List.mem_of_getElem? h))))), g⟩
theorem mo_tb5 {w : Cond} (i : Nat) (h : tables_1_5[i]? = some w) (g : goodWord w = true) : w ∈ mo_B := List.mem_filter.mpr ⟨List.mem_append_right _ (show w ∈ tables_1_1 ++ (tables_1_2 ++ (tables_1_3 ++ (tables_1_4 ++ (tables_1_5 ++ tables_1_6)))) from List.mem_append_right _ (List.mem_append_right _ (List.mem_append_right _ (List.mem_append_right _ (List.mem_append_left _ (List.mem_of_getElem? h)))))), g⟩
theorem mo_tb6 {w : Cond} (i : Nat) (h : tables_1_6[i]? = some w) (g : goodWord w = true) : w ∈ mo_B := List.mem_filter.mpr ⟨List.mem_append_right _ (show w ∈ tables_1_1 ++ (tables_1_2 ++ (tables_1_3 ++ (tables_1_4 ++ (tables_1_5 ++ tables_1_6)))) from List.mem_append_right _ (List.mem_append_right _ (List.mem_append_right _ (List.mem_append_right _ (List.mem_append_right _ (List.mem_of_getElem? h)))))), g⟩
theorem mo_pv1 {y : MethodName} {w : Cond} {nn : Nat} (i : Nat) (h : lw_privs_1[i]? = some (y, nn)) (g : Cond.selects y.cls y y = w) : w ∈ mo_B := by
  have h1 : (y, nn) ∈ lw_privs := show (y, nn) ∈ lw_privs_1 ++ (lw_privs_2 ++ (lw_privs_3 ++ (lw_privs_4 ++ (lw_privs_5)))) from List.mem_append_left _ (List.mem_of_getElem? h)
  refine List.mem_filter.mpr ⟨List.mem_append_left _ (List.mem_map.mpr ⟨(y, nn), h1, g⟩), ?_⟩
  rw [← g]
  rfl
theorem mo_pv2 {y : MethodName} {w : Cond} {nn : Nat} (i : Nat) (h : lw_privs_2[i]? = some (y, nn)) (g : Cond.selects y.cls y y = w) : w ∈ mo_B := by
  have h1 : (y, nn) ∈ lw_privs := show (y, nn) ∈ lw_privs_1 ++ (lw_privs_2 ++ (lw_privs_3 ++ (lw_privs_4 ++ (lw_privs_5)))) from List.mem_append_right _ (List.mem_append_left _ (List.mem_of_getElem? h))
  refine List.mem_filter.mpr ⟨List.mem_append_left _ (List.mem_map.mpr ⟨(y, nn), h1, g⟩), ?_⟩
  rw [← g]
  rfl
theorem mo_pv3 {y : MethodName} {w : Cond} {nn : Nat} (i : Nat) (h : lw_privs_3[i]? = some (y, nn)) (g : Cond.selects y.cls y y = w) : w ∈ mo_B := by
  have h1 : (y, nn) ∈ lw_privs := show (y, nn) ∈ lw_privs_1 ++ (lw_privs_2 ++ (lw_privs_3 ++ (lw_privs_4 ++ (lw_privs_5)))) from List.mem_append_right _ (List.mem_append_right _ (List.mem_append_left _ (List.mem_of_getElem? h)))
  refine List.mem_filter.mpr ⟨List.mem_append_left _ (List.mem_map.mpr ⟨(y, nn), h1, g⟩), ?_⟩
  rw [← g]
  rfl
theorem mo_pv4 {y : MethodName} {w : Cond} {nn : Nat} (i : Nat) (h : lw_privs_4[i]? = some (y, nn)) (g : Cond.selects y.cls y y = w) : w ∈ mo_B := by
  have h1 : (y, nn) ∈ lw_privs := show (y, nn) ∈ lw_privs_1 ++ (lw_privs_2 ++ (lw_privs_3 ++ (lw_privs_4 ++ (lw_privs_5)))) from List.mem_append_right _ (List.mem_append_right _ (List.mem_append_right _ (List.mem_append_left _ (List.mem_of_getElem? h))))
  refine List.mem_filter.mpr ⟨List.mem_append_left _ (List.mem_map.mpr ⟨(y, nn), h1, g⟩), ?_⟩
  rw [← g]
  rfl
theorem mo_pv5 {y : MethodName} {w : Cond} {nn : Nat} (i : Nat) (h : lw_privs_5[i]? = some (y, nn)) (g : Cond.selects y.cls y y = w) : w ∈ mo_B := by
  have h1 : (y, nn) ∈ lw_privs := show (y, nn) ∈ lw_privs_1 ++ (lw_privs_2 ++ (lw_privs_3 ++ (lw_privs_4 ++ (lw_privs_5)))) from List.mem_append_right _ (List.mem_append_right _ (List.mem_append_right _ (List.mem_append_right _ (List.mem_of_getElem? h))))
  refine List.mem_filter.mpr ⟨List.mem_append_left _ (List.mem_map.mpr ⟨(y, nn), h1, g⟩), ?_⟩
  rw [← g]
  rfl
theorem mo_wsys : Cond.initialized "java/lang/System" ∈ mo_B := mo_tb1 13 rfl rfl
theorem mo_gd {w : Cond} (h : w ∈ mo_B) : (w.onTables && w.keeps) = true ∨ ∃ ty, w = .arrayClass ty := good_of_word (List.mem_filter.mp h).2
def mo_LkV (own : String) (index : Nat) (C : String) (y : MethodName) (bytes : ByteArray) (maxL : Nat) (ret : Option FieldType) : Prop := Cond.methodLink own index y ∈ mo_B ∧ Cond.instanceMethod y ∈ mo_B ∧ Cond.selects C y y ∈ mo_B ∧ Cond.initialized C ∈ mo_B ∧ Cond.code y bytes maxL ret ∈ mo_B
def mo_LkS (own : String) (index : Nat) (y : MethodName) (bytes : ByteArray) (maxL : Nat) (ret : Option FieldType) : Prop := Cond.methodLink own index y ∈ mo_B ∧ Cond.static y ∈ mo_B ∧ Cond.initialized y.cls ∈ mo_B ∧ Cond.code y bytes maxL ret ∈ mo_B
def mo_LkI (own : String) (index : Nat) (y : MethodName) (bytes : ByteArray) (maxL : Nat) : Prop := Cond.methodLink own index y ∈ mo_B ∧ Cond.instanceMethod y ∈ mo_B ∧ Cond.initialized y.cls ∈ mo_B ∧ Cond.code y bytes maxL none ∈ mo_B
theorem mo_gw {y : MethodName} {cc : ByteArray} {maxL : Nat} {ret : Option FieldType} (h : Cond.code y cc maxL ret ∈ mo_B) : GoodIn mo_B (mo_ws y cc maxL ret) := fun w hw => by
  rcases List.mem_cons.mp hw with e | e
  · rw [e]; exact ⟨h, mo_gd h⟩
  · exact ⟨e, mo_gd e⟩
theorem mo_gwV {own : String} {index : Nat} {C : String} {y : MethodName} {cc : ByteArray} {maxL : Nat} {ret : Option FieldType} (h : mo_LkV own index C y cc maxL ret) : GoodIn mo_B (wsV own index C y (mo_ws y cc maxL ret)) := fun w hw => by
  obtain ⟨h1, h2, h3, h4, h5⟩ := h
  rcases List.mem_append.mp hw with e | e
  · simp only [List.mem_cons, List.not_mem_nil, or_false] at e
    rcases e with rfl | rfl | rfl | rfl
    · exact ⟨h1, mo_gd h1⟩
    · exact ⟨h2, mo_gd h2⟩
    · exact ⟨h3, mo_gd h3⟩
    · exact ⟨h4, mo_gd h4⟩
  · exact mo_gw h5 w e
theorem mo_gwS {own : String} {index : Nat} {y : MethodName} {cc : ByteArray} {maxL : Nat} {ret : Option FieldType} (h : mo_LkS own index y cc maxL ret) : GoodIn mo_B (va_wsS own index y (mo_ws y cc maxL ret)) := fun w hw => by
  obtain ⟨h1, h2, h3, h5⟩ := h
  rcases List.mem_append.mp hw with e | e
  · simp only [List.mem_cons, List.not_mem_nil, or_false] at e
    rcases e with rfl | rfl | rfl
    · exact ⟨h1, mo_gd h1⟩
    · exact ⟨h2, mo_gd h2⟩
    · exact ⟨h3, mo_gd h3⟩
  · exact mo_gw h5 w e
theorem mo_fb (av : List Value) (ρ : mo_E) (G : mo_G) (M : mo_M) (t : Nat) : FrameBlind (va_Pc av (mo_Bc ρ G M t)) := fun a U g mk q => by
  obtain ⟨q0, q1, q2, q3, q4⟩ := q
  exact ⟨q0, q1, q2, va_K.moved (u := U) (U := U.calling g mk a) (Vm.Alike.refl U.vm) q3, q4⟩
theorem mo_back {p : Program} {l : Launch} {e : Env} {R : Room} {s : State} {m : MethodId} {args : Array Value} {below : List Frame} {meth : Method} {c : Code} {H : Heap} {locs : List Loc} {k n kc ks pc : Nat} {lr : Array Slot} {st0 rest : List Value} {ρ : mo_E} {post : Option Value → mo_G → mo_M → Nat → Prop} {av : Array Value} {Q : State → Prop}
    (hr : va_Run p l e R s m args below meth c H locs k n kc ks (F0 m pc lr st0) rest (mo_Qc ρ post av) (mo_fr ρ)) (hS : va_S (fun q => ρ.2.2 ≤ q) s.heap H locs)
    (kk : ∀ (v : Option Value) (G' : mo_G) (M' : mo_M) (t' : Nat), post v G' M' t' → ∀ (H' : Heap) (locs' : List Loc), H'.size = t' → mo_R ρ G' M' H' → va_S (fun q => ρ.2.2 ≤ q) s.heap H' locs' → W p l e R s m args below meth c H' locs' (k + kc) (n + ks) Q (F0 m (pc + 3) lr (v.toList ++ rest))) : W p l e R s m args below meth c H locs k n Q (F0 m pc lr st0) := by
  intro T hT X
  obtain ⟨v, st₀, t, T', L, h0, X', hL, e1, e2, ⟨⟨v', G', M', hv, hp, hR'⟩, hz, hk⟩, st⟩ := hr T hT X
  obtain rfl : v = v' := Outcome.returned.inj hv
  rw [h0] at hz hk
  have hS' : va_S (fun q => ρ.2.2 ≤ q) s.heap T'.heap (locs ++ L) := by
    refine ⟨Nat.le_trans hS.1 (by rw [e1]; exact hz), fun q h1 h2 => ?_, fun q hq => ?_⟩
    · rw [e1, hk q (Nat.lt_of_lt_of_le h1 hS.1) h2]
      exact hS.2.1 q h1 h2
    · rcases List.mem_append.mp hq with h | h
      · exact hS.2.2 q h
      · exact hL q h
  obtain ⟨t2, a1, b1⟩ := kk v G' M' t.heap.size hp T'.heap (locs ++ L) (by rw [e1]) (by rw [e1]; exact hR') hS' T' rfl X'
  exact ⟨t2, st t2 a1, b1⟩
def mo_Rm (κ : mo_T) (a b : Nat) : Prop := a ≤ κ.1.2.2.2.1.cells ∧ b ≤ κ.1.2.2.2.1.slots
def mo_dV (y : MethodName) (C : String) (n : Nat) : Prop := y.cls = C ∧ y.cls ≠ "java/lang/invoke/MethodHandle" ∧ y.cls ≠ "java/lang/invoke/VarHandle" ∧ (parseMethodDescriptor y.desc).map (fun d => d.parameters.length) = some n
section MOS
variable {κ : mo_T} {lf : Launch} {ρf : mo_E} {cc : ByteArray} {nL : Nat} {own : String} {ret : Option FieldType} {d k n pc : Nat} {ls : List (Option Value)} {st : List Value} {G : mo_G} {M : mo_M} {t : Nat}

theorem mo_gI (X : mo_Cx κ lf ρf cc nL own ret d) {C : String} {T : u_T} {N ci j a index : Nat} (hc : vwCl[ci]? = some (C, T, N)) (hin : ∀ w ∈ u_ws C T N, w ∈ mo_B) (hj : j < N) (hjn : j < mo_fn ci) (hlink : Cond.fieldLink own index (T j).1 (T j).2.1 (T j).2.2.1 ∈ mo_B) (hk : mo_fk ci j = 0) (hd : decode cc pc = .ok (.getfield index, 3)) (hG : G.1 a = some (.inl ci))  (kk : mo_V κ k n (pc + 3) ls (mo_iv (M a j) :: st) G M t) : mo_V κ k n pc ls (.ref a :: st) G M t := by
  obtain ⟨⟨p, l, e, R, s⟩, ⟨m, args, below, meth, c⟩, Q, ρ⟩ := κ
  obtain ⟨hx, hb, hml, hown, hts, hK, hlk, hrt, hb0, hRf, hRl, hlf, hρ⟩ := X
  intro H locs lr ht hR hS hl
  have hv : (mo_fs G M a ci)[j]? = some (mo_iv (M a j)) := by
    rw [mo_fs_at G M a ci hjn]
    unfold mo_fv
    rw [hk]
    rfl
  exact va_get (D := ρ.1) (tys := mo_tys ρ) (cl := vwCl) hx hb hts hin hown hK (mo_one (hR a _ hG).2) 0 rfl hc j hj (hts _ hlink) (fun _ h => h) hv hd (kk H locs lr ht hR hS hl)
theorem mo_gJ (X : mo_Cx κ lf ρf cc nL own ret d) {C : String} {T : u_T} {N ci j a index : Nat} (hc : vwCl[ci]? = some (C, T, N)) (hin : ∀ w ∈ u_ws C T N, w ∈ mo_B) (hj : j < N) (hjn : j < mo_fn ci) (hlink : Cond.fieldLink own index (T j).1 (T j).2.1 (T j).2.2.1 ∈ mo_B) (hk : mo_fk ci j = 1) (hd : decode cc pc = .ok (.getfield index, 3)) (hG : G.1 a = some (.inl ci))  (kk : mo_V κ k n (pc + 3) ls (mo_jv (M a j) :: st) G M t) : mo_V κ k n pc ls (.ref a :: st) G M t := by
  obtain ⟨⟨p, l, e, R, s⟩, ⟨m, args, below, meth, c⟩, Q, ρ⟩ := κ
  obtain ⟨hx, hb, hml, hown, hts, hK, hlk, hrt, hb0, hRf, hRl, hlf, hρ⟩ := X
  intro H locs lr ht hR hS hl
  have hv : (mo_fs G M a ci)[j]? = some (mo_jv (M a j)) := by
    rw [mo_fs_at G M a ci hjn]
    unfold mo_fv
    rw [hk]
    rfl
  exact va_get (D := ρ.1) (tys := mo_tys ρ) (cl := vwCl) hx hb hts hin hown hK (mo_one (hR a _ hG).2) 0 rfl hc j hj (hts _ hlink) (fun _ h => h) hv hd (kk H locs lr ht hR hS hl)
theorem mo_gR (X : mo_Cx κ lf ρf cc nL own ret d) {C : String} {T : u_T} {N ci j a index : Nat} (hc : vwCl[ci]? = some (C, T, N)) (hin : ∀ w ∈ u_ws C T N, w ∈ mo_B) (hj : j < N) (hjn : j < mo_fn ci) (hlink : Cond.fieldLink own index (T j).1 (T j).2.1 (T j).2.2.1 ∈ mo_B) (hk : mo_fk ci j = 2) (hd : decode cc pc = .ok (.getfield index, 3)) (hG : G.1 a = some (.inl ci)) {q : Nat} (hp : G.2 a j = some q) (kk : mo_V κ k n (pc + 3) ls (.ref q :: st) G M t) : mo_V κ k n pc ls (.ref a :: st) G M t := by
  obtain ⟨⟨p, l, e, R, s⟩, ⟨m, args, below, meth, c⟩, Q, ρ⟩ := κ
  obtain ⟨hx, hb, hml, hown, hts, hK, hlk, hrt, hb0, hRf, hRl, hlf, hρ⟩ := X
  intro H locs lr ht hR hS hl
  have hv : (mo_fs G M a ci)[j]? = some (.ref q) := by
    rw [mo_fs_at G M a ci hjn]
    unfold mo_fv
    rw [hk]
    show some (va_rf _) = _
    rw [hp]
    rfl
  exact va_get (D := ρ.1) (tys := mo_tys ρ) (cl := vwCl) hx hb hts hin hown hK (mo_one (hR a _ hG).2) 0 rfl hc j hj (hts _ hlink) (fun _ h => h) hv hd (kk H locs lr ht hR hS hl)
theorem mo_pI (X : mo_Cx κ lf ρf cc nL own ret d) {C : String} {T : u_T} {N ci j a index : Nat} (hc : vwCl[ci]? = some (C, T, N)) (hin : ∀ w ∈ u_ws C T N, w ∈ mo_B) (hj : j < N) (hjn : j < mo_fn ci) (hlink : Cond.fieldLink own index (T j).1 (T j).2.1 (T j).2.2.1 ∈ mo_B) (hk : mo_fk ci j = 0) (hd : decode cc pc = .ok (.putfield index, 3)) (hG : G.1 a = some (.inl ci)) {ty0 : Nat → FieldType} (hty0 : ∀ k, k < N → parseFieldDescriptor (T k).2.2.1 = some (ty0 k)) (hnm : ∀ a, a < N → ∀ b, b < N → a ≠ b → (T a).2.1 ≠ (T b).2.1) (hfin : (T j).2.2.2 = false) (htj : parseFieldDescriptor (T j).2.2.1 = some .int) {x : Int} (kk : mo_V κ k n (pc + 3) ls st G (mo_ur M a (va_up (M a) j x)) t) : mo_V κ k n pc ls (mo_iv x :: .ref a :: st) G M t := by
  obtain ⟨⟨p, l, e, R, s⟩, ⟨m, args, below, meth, c⟩, Q, ρ⟩ := κ
  obtain ⟨hx, hb, hml, hown, hts, hK, hlk, hrt, hb0, hRf, hRl, hlf, hρ⟩ := X
  intro H locs lr ht hR hS hl
  have hap := va_apart (own := own) hts hin ty0 hty0 hnm hK hc
  obtain ⟨r, h1, cell, q1, q2, q3, q4⟩ := (hR a _ hG).2
  have hr : r = (C, T, N) := Option.some.inj (h1.symm.trans hc)
  subst hr
  obtain ⟨hS1, hfc, kC, hkC, hkind⟩ := hK.1 ci _ hc
  obtain ⟨cf, kf, fi, f, hi, hsl⟩ := hS1 j hj
  have hlay := hts _ (hin _ (u_in_lay hj))
  unfold u_lay at hlay
  rw [if_neg (by rw [hfin]; decide)] at hlay
  have hst := (u_facts hfc hkC (u_lays hts hin hj) hi).1
  have h6 := u_store hfc hkC hkind hlay hi htj (v := mo_iv x) rfl rfl
  refine W.putK hx hb (f := f) ⟨hown, hts _ hlink, ⟨_, _, _, hi⟩, hst⟩ (by rw [q2]; exact h6) q1 q3 (by rw [hsl]; exact k2_hasslot (q4 j hj)) rfl rfl hd fun H' e1 e2 e3 => ?_
  rw [hsl] at e1 ⊢
  refine kk H' _ lr (by rw [e2]; exact ht) (mo_R_set hR hG ⟨_, hc, ?_⟩ e3) (hS.put e2 e3 (hR a _ hG).1) hl
  refine t_OB.to (V := updV (vp_V (mo_fs G M a ci)) j (mo_iv x)) ⟨_, e1, q2, q3, t_set q4 hap hj _⟩ (fun i _ => ?_)
  rw [vp_updV_set (by rw [mo_fs_len]; exact hjn)]
  rw [mo_fs_set G G M (mo_ur M a (va_up (M a) j x)) a ci j _ ?_ ?_]
  · unfold mo_fv
    rw [hk, mo_ur_s, mo_up_s]
    rfl
  · intro i hij
    unfold mo_fv
    rw [mo_ur_s, mo_up_n hij]
theorem mo_pJ (X : mo_Cx κ lf ρf cc nL own ret d) {C : String} {T : u_T} {N ci j a index : Nat} (hc : vwCl[ci]? = some (C, T, N)) (hin : ∀ w ∈ u_ws C T N, w ∈ mo_B) (hj : j < N) (hjn : j < mo_fn ci) (hlink : Cond.fieldLink own index (T j).1 (T j).2.1 (T j).2.2.1 ∈ mo_B) (hk : mo_fk ci j = 1) (hd : decode cc pc = .ok (.putfield index, 3)) (hG : G.1 a = some (.inl ci)) {ty0 : Nat → FieldType} (hty0 : ∀ k, k < N → parseFieldDescriptor (T k).2.2.1 = some (ty0 k)) (hnm : ∀ a, a < N → ∀ b, b < N → a ≠ b → (T a).2.1 ≠ (T b).2.1) (hfin : (T j).2.2.2 = false) (htj : parseFieldDescriptor (T j).2.2.1 = some .long) {x : Int} (kk : mo_V κ k n (pc + 3) ls st G (mo_ur M a (va_up (M a) j x)) t) : mo_V κ k n pc ls (mo_jv x :: .ref a :: st) G M t := by
  obtain ⟨⟨p, l, e, R, s⟩, ⟨m, args, below, meth, c⟩, Q, ρ⟩ := κ
  obtain ⟨hx, hb, hml, hown, hts, hK, hlk, hrt, hb0, hRf, hRl, hlf, hρ⟩ := X
  intro H locs lr ht hR hS hl
  have hap := va_apart (own := own) hts hin ty0 hty0 hnm hK hc
  obtain ⟨r, h1, cell, q1, q2, q3, q4⟩ := (hR a _ hG).2
  have hr : r = (C, T, N) := Option.some.inj (h1.symm.trans hc)
  subst hr
  obtain ⟨hS1, hfc, kC, hkC, hkind⟩ := hK.1 ci _ hc
  obtain ⟨cf, kf, fi, f, hi, hsl⟩ := hS1 j hj
  have hlay := hts _ (hin _ (u_in_lay hj))
  unfold u_lay at hlay
  rw [if_neg (by rw [hfin]; decide)] at hlay
  have hst := (u_facts hfc hkC (u_lays hts hin hj) hi).1
  have h6 := u_store hfc hkC hkind hlay hi htj (v := mo_jv x) rfl rfl
  refine W.putK hx hb (f := f) ⟨hown, hts _ hlink, ⟨_, _, _, hi⟩, hst⟩ (by rw [q2]; exact h6) q1 q3 (by rw [hsl]; exact k2_hasslot (q4 j hj)) rfl rfl hd fun H' e1 e2 e3 => ?_
  rw [hsl] at e1 ⊢
  refine kk H' _ lr (by rw [e2]; exact ht) (mo_R_set hR hG ⟨_, hc, ?_⟩ e3) (hS.put e2 e3 (hR a _ hG).1) hl
  refine t_OB.to (V := updV (vp_V (mo_fs G M a ci)) j (mo_jv x)) ⟨_, e1, q2, q3, t_set q4 hap hj _⟩ (fun i _ => ?_)
  rw [vp_updV_set (by rw [mo_fs_len]; exact hjn)]
  rw [mo_fs_set G G M (mo_ur M a (va_up (M a) j x)) a ci j _ ?_ ?_]
  · unfold mo_fv
    rw [hk, mo_ur_s, mo_up_s]
    rfl
  · intro i hij
    unfold mo_fv
    rw [mo_ur_s, mo_up_n hij]
theorem mo_iald (X : mo_Cx κ lf ρf cc nL own ret d) {a N : Nat} {i : Int} (hd : decode cc pc = .ok (.iaload, 1)) (hG : G.1 a = some (.inr (0, N))) (hN : (N : Int) ≤ 2147483647) (h0 : 0 ≤ i) (h1 : i < (N : Int)) (kk : mo_V κ k n (pc + 1) ls (mo_iv (M a i.toNat) :: st) G M t) : mo_V κ k n pc ls (mo_iv i :: .ref a :: st) G M t := by
  obtain ⟨⟨p, l, e, R, s⟩, ⟨m, args, below, meth, c⟩, Q, ρ⟩ := κ
  obtain ⟨hx, hb, hml, hown, hts, hK, hlk, hrt, hb0, hRf, hRl, hlf, hρ⟩ := X
  intro H locs lr ht hR hS hl
  refine va_iald hx hb hK (mo_one (hR a _ hG).2) 0 0 rfl rfl (mo_vin (by omega) h0 h1) hd ?_
  rw [mo_cl (by omega) h0]
  exact kk H locs lr ht hR hS hl
theorem mo_lald (X : mo_Cx κ lf ρf cc nL own ret d) {a N : Nat} {i : Int} (hd : decode cc pc = .ok (.laload, 1)) (hG : G.1 a = some (.inr (1, N))) (hN : (N : Int) ≤ 2147483647) (h0 : 0 ≤ i) (h1 : i < (N : Int)) (kk : mo_V κ k n (pc + 1) ls (mo_jv (M a i.toNat) :: st) G M t) : mo_V κ k n pc ls (mo_iv i :: .ref a :: st) G M t := by
  obtain ⟨⟨p, l, e, R, s⟩, ⟨m, args, below, meth, c⟩, Q, ρ⟩ := κ
  obtain ⟨hx, hb, hml, hown, hts, hK, hlk, hrt, hb0, hRf, hRl, hlf, hρ⟩ := X
  intro H locs lr ht hR hS hl
  refine va_lald hx hb hK (mo_one (hR a _ hG).2) 0 1 rfl rfl (mo_vin (by omega) h0 h1) hd ?_
  rw [mo_cl (by omega) h0]
  exact kk H locs lr ht hR hS hl
theorem mo_iast (X : mo_Cx κ lf ρf cc nL own ret d) {a N : Nat} {i x : Int} (hd : decode cc pc = .ok (.iastore, 1)) (hG : G.1 a = some (.inr (0, N))) (hN : (N : Int) ≤ 2147483647) (h0 : 0 ≤ i) (h1 : i < (N : Int)) (kk : mo_V κ k n (pc + 1) ls st G (mo_ur M a (va_up (M a) i.toNat x)) t) : mo_V κ k n pc ls (mo_iv x :: mo_iv i :: .ref a :: st) G M t := by
  obtain ⟨⟨p, l, e, R, s⟩, ⟨m, args, below, meth, c⟩, Q, ρ⟩ := κ
  obtain ⟨hx, hb, hml, hown, hts, hK, hlk, hrt, hb0, hRf, hRl, hlf, hρ⟩ := X
  intro H locs lr ht hR hS hl
  have hin := mo_vin (n := N) (x := i) (by omega) h0 h1
  refine W.iast hx hb (hR a _ hG).2 ((hK.2 0 _ rfl).1 N (fun j => mo_iv (M a j))) (fun q => by cases q) (by show ¬ (_ ∨ (arrV _ _ _).slots.size ≤ _); rw [arrV_size]; exact hin) rfl rfl hd fun H1 e z oq => ?_
  refine kk H1 _ lr (by rw [z]; exact ht) (mo_R_set hR hG ?_ oq) (hS.put z oq (hR a _ hG).1) hl
  show H1[a]? = some (vp_cell _ _)
  rw [e, vp_cell_i]
  rw [vp_cell_i, arrV_store, mo_cl (by omega) h0]
  congr 2
  funext q
  by_cases hq : q = i.toNat
  · subst hq
    simp [updV, mo_ur, va_up, mo_iv]
  · simp [updV, mo_ur, va_up, hq]
theorem mo_last (X : mo_Cx κ lf ρf cc nL own ret d) {a N : Nat} {i x : Int} (hd : decode cc pc = .ok (.lastore, 1)) (hG : G.1 a = some (.inr (1, N))) (hN : (N : Int) ≤ 2147483647) (h0 : 0 ≤ i) (h1 : i < (N : Int)) (kk : mo_V κ k n (pc + 1) ls st G (mo_ur M a (va_up (M a) i.toNat x)) t) : mo_V κ k n pc ls (mo_jv x :: mo_iv i :: .ref a :: st) G M t := by
  obtain ⟨⟨p, l, e, R, s⟩, ⟨m, args, below, meth, c⟩, Q, ρ⟩ := κ
  obtain ⟨hx, hb, hml, hown, hts, hK, hlk, hrt, hb0, hRf, hRl, hlf, hρ⟩ := X
  intro H locs lr ht hR hS hl
  have hin := mo_vin (n := N) (x := i) (by omega) h0 h1
  refine W.last hx hb (hR a _ hG).2 ((hK.2 1 _ rfl).1 N (fun j => mo_jv (M a j))) (fun q => by cases q) (by show ¬ (_ ∨ (arrV _ _ _).slots.size ≤ _); rw [arrV_size]; exact hin) rfl rfl hd fun H1 e z oq => ?_
  refine kk H1 _ lr (by rw [z]; exact ht) (mo_R_set hR hG ?_ oq) (hS.put z oq (hR a _ hG).1) hl
  show H1[a]? = some (vp_cell _ _)
  rw [e, vp_cell_l]
  rw [vp_cell_l, arrV_store, mo_cl (by omega) h0]
  congr 2
  funext q
  by_cases hq : q = i.toNat
  · subst hq
    simp [updV, mo_ur, va_up, mo_jv]
  · simp [updV, mo_ur, va_up, hq]
theorem mo_alenI (X : mo_Cx κ lf ρf cc nL own ret d) {a N : Nat} (hd : decode cc pc = .ok (.arraylength, 1)) (hG : G.1 a = some (.inr (0, N))) (kk : mo_V κ k n (pc + 1) ls (mo_iv (N : Int) :: st) G M t) : mo_V κ k n pc ls (.ref a :: st) G M t := by
  obtain ⟨⟨p, l, e, R, s⟩, ⟨m, args, below, meth, c⟩, Q, ρ⟩ := κ
  obtain ⟨hx, hb, hml, hown, hts, hK, hlk, hrt, hb0, hRf, hRl, hlf, hρ⟩ := X
  intro H locs lr ht hR hS hl
  exact va_alen hx hb hK (mo_one (hR a _ hG).2) 0 0 rfl rfl rfl hd (kk H locs lr ht hR hS hl)
theorem mo_alenQ (X : mo_Cx κ lf ρf cc nL own ret d) {a N : Nat} (hd : decode cc pc = .ok (.arraylength, 1)) (hG : G.1 a = some (.inr (2, N))) (kk : mo_V κ k n (pc + 1) ls (mo_iv (N : Int) :: st) G M t) : mo_V κ k n pc ls (.ref a :: st) G M t := by
  obtain ⟨⟨p, l, e, R, s⟩, ⟨m, args, below, meth, c⟩, Q, ρ⟩ := κ
  obtain ⟨hx, hb, hml, hown, hts, hK, hlk, hrt, hb0, hRf, hRl, hlf, hρ⟩ := X
  intro H locs lr ht hR hS hl
  exact va_alen hx hb hK (mo_one (hR a _ hG).2) 0 2 rfl rfl rfl hd (kk H locs lr ht hR hS hl)
theorem mo_aald (X : mo_Cx κ lf ρf cc nL own ret d) {a N q : Nat} {i : Int} (hd : decode cc pc = .ok (.aaload, 1)) (hG : G.1 a = some (.inr (2, N))) (hN : (N : Int) ≤ 2147483647) (h0 : 0 ≤ i) (h1 : i < (N : Int)) (hp : G.2 a i.toNat = some q) (kk : mo_V κ k n (pc + 1) ls (.ref q :: st) G M t) : mo_V κ k n pc ls (mo_iv i :: .ref a :: st) G M t := by
  obtain ⟨⟨p, l, e, R, s⟩, ⟨m, args, below, meth, c⟩, Q, ρ⟩ := κ
  obtain ⟨hx, hb, hml, hown, hts, hK, hlk, hrt, hb0, hRf, hRl, hlf, hρ⟩ := X
  intro H locs lr ht hR hS hl
  refine va_aldq (C := RX2) hx hb hK (mo_one (hR a _ hG).2) 0 2 rfl rfl (mo_vin (by omega) h0 h1) hd ?_
  rw [mo_cl (by omega) h0, hp]
  exact kk H locs lr ht hR hS hl
def mo_gp (G : mo_G) (a : Nat) (i : Nat) (v : Option Nat) : mo_G := (G.1, fun b => if b = a then va_up (G.2 a) i v else G.2 b)
theorem mo_el_gp (ρ : mo_E) (G : mo_G) (M : mo_M) (a i : Nat) (v : Option Nat) {b : Nat} (h : b ≠ a) (e : mo_Kd) : mo_el ρ (mo_gp G a i v) M b e = mo_el ρ G M b e := by
  have h2 : (mo_gp G a i v).2 b = G.2 b := by simp [mo_gp, h]
  have hf : mo_fs (mo_gp G a i v) M b = mo_fs G M b := by
    funext ci
    unfold mo_fs
    congr 1
    funext k
    unfold mo_fv
    rw [h2]
  rcases e with ci | ⟨t, n⟩
  · show Sum.inr _ = Sum.inr _
    rw [hf]
  · match t with
    | 0 => rfl
    | 1 => rfl
    | t + 2 => show Sum.inl _ = Sum.inl _; rw [h2]
theorem mo_R_gp {ρ : mo_E} {G : mo_G} {M : mo_M} {H H1 : Heap} {a i : Nat} {v : Option Nat} {e : mo_Kd} (hR : mo_R ρ G M H) (he : G.1 a = some e) (h1 : va_at ρ.1 vwCl (a, mo_el ρ (mo_gp G a i v) M a e) H1) (h2 : ∀ q, q ≠ a → H1[q]? = H[q]?) : mo_R ρ (mo_gp G a i v) M H1 := by
  intro b e' hb
  have hb : G.1 b = some e' := hb
  by_cases hba : b = a
  · subst hba
    cases he.symm.trans hb
    exact ⟨(hR b e hb).1, h1⟩
  · refine ⟨(hR b e' hb).1, ?_⟩
    rw [mo_el_gp ρ G M a i v hba e']
    exact (hR b e' hb).2.kept (h2 b hba)
theorem mo_aast (X : mo_Cx κ lf ρf cc nL own ret d) {a N v : Nat} {i : Int} (hd : decode cc pc = .ok (.aastore, 1)) (hG : G.1 a = some (.inr (2, N))) (hv : G.1 v = some (.inl 2)) (hN : (N : Int) ≤ 2147483647) (h0 : 0 ≤ i) (h1 : i < (N : Int)) (kk : mo_V κ k n (pc + 1) ls st (mo_gp G a i.toNat (some v)) M t) : mo_V κ k n pc ls (.ref v :: mo_iv i :: .ref a :: st) G M t := by
  obtain ⟨⟨p, l, e, R, s⟩, ⟨m, args, below, meth, c⟩, Q, ρ⟩ := κ
  obtain ⟨hx, hb, hml, hown, hts, hK, hlk, hrt, hb0, hRf, hRl, hlf, hρ⟩ := X
  intro H locs lr ht hR hS hl
  have hin := mo_vin (n := N) (x := i) (by omega) h0 h1
  have hlt : (Int32.ofInt i).toNatClampNeg < N := Nat.not_le.mp fun q => hin (Or.inr q)
  have h00 : ¬ Int32.ofInt i < 0 := fun q => hin (Or.inl q)
  obtain ⟨r', hr', cellV, g1, g2, g3, -⟩ := (hR v _ hv).2
  have hcls := (hK.1 2 (RX2, TX2, 15) rfl).2
  obtain ⟨kA, comp, k1, k2, k3, -⟩ := (hK.2 2 _ rfl).2
  have hcomp : comp = ρ.1.1 2 := Option.some.inj (k3.symm.trans hcls.1)
  subst hcomp
  obtain ⟨kC, hkC, -⟩ := hcls.2
  refine W.aast hx hb (hR a _ hG).2 (fun q h => by cases h) (fun h => by cases h) k1 k2 rfl hkC ⟨h00, by show _ < (arrV _ _ _).slots.size; rw [arrV_size]; exact hlt⟩ g1 (fun q h => by rw [g3] at h; cases h) (by rw [g2]; exact hkC) (by rw [g2]; exact va_assign hcls) rfl rfl hd fun H1 e z oq => ?_
  refine kk H1 _ lr (by rw [z]; exact ht) (mo_R_gp hR hG ?_ oq) (hS.put z oq (hR a _ hG).1) hl
  show H1[a]? = some (vp_cell _ _)
  rw [e, vp_cell_q]
  rw [vp_cell_q, arrV_store, mo_cl (by omega) h0]
  congr 2
  funext q
  by_cases hq : q = i.toNat
  · subst hq
    simp [updV, mo_gp, va_up, va_rf]
  · simp [updV, mo_gp, va_up, hq]
theorem mo_callVr (X : mo_Cx κ lf ρf cc nL own ret d) {y : MethodName} {bytes : ByteArray} {maxL d' kc ks b ci N index : Nat} {ret' : Option FieldType} {As rest : List Value} {C : String} {T : u_T} {post : Option Value → mo_G → mo_M → Nat → Prop} (hL : mo_LkV own index C y bytes maxL ret') (hy : mo_dV y C As.length) (hcl : vwCl[ci]? = some (C, T, N)) (hd : decode cc pc = .ok (.invokevirtual index, 3)) (hC : mo_Ct lf ρf y bytes maxL ret' d' kc ks (.ref b :: As) G M t post) (hG : G.1 b = some (.inl ci)) (hst : st = As.reverse ++ .ref b :: rest) (hdd : d' + 1 ≤ d) (hmx : maxL ≤ 11) (hsum : (rest.map fun v => v.category).sum ≤ 8) (hroom : mo_Rm κ (k + kc) (n + ks)) (kk : ∀ v G' M' t', post v G' M' t' → mo_V κ (k + kc) (n + ks) (pc + 3) ls (v.toList ++ rest) G' M' t') : mo_V κ k n pc ls st G M t := by
  obtain ⟨⟨p, l, e, R, s⟩, ⟨m, args, below, meth, c⟩, Q, ρ⟩ := κ
  obtain ⟨hx, hb, hml, hown, hts, hK, hlk, hrt, hb0, hRf, hRl, hlf, hρ⟩ := X
  subst hlf
  subst hρ
  intro H locs lr ht hR hS hl
  have hPc := mo_one (hR b _ hG).2
  refine mo_back (va_runV (As := As) (rest := rest) ⟨hx, hb, hml, hown, hts⟩ hC (cwV As.length hts (mo_gwV hL) rfl rfl rfl hy ⟨Nat.le_trans hdd hRf, by show 8 + (maxL + 11) + 30 * d' ≤ R.locals; omega⟩) ⟨mo_fb _ _ _ _ _, va_recv hK hPc (ci := ci) (q0 := 0) hcl rfl, fun U hU hW => ⟨rfl, by rw [hU]; exact ht, by rw [hU]; exact hR, va_K.moved hW.alike hK, by rw [← ht]; exact Nat.le_trans hb0 hS.1⟩⟩ rfl rfl (hl.1.trans hml) hst (lv_room hsum) hd hroom) hS ?_
  intro v G' M' t' hp H' locs' hz hR' hS'
  exact kk v G' M' t' hp H' locs' lr hz hR' hS' hl
theorem mo_callSr (X : mo_Cx κ lf ρf cc nL own ret d) {y : MethodName} {bytes : ByteArray} {maxL d' kc ks index : Nat} {ret' : Option FieldType} {As rest : List Value} {post : Option Value → mo_G → mo_M → Nat → Prop} (hL : mo_LkS own index y bytes maxL ret') (hy : y.cls ≠ "java/lang/invoke/MethodHandle" ∧ y.cls ≠ "java/lang/invoke/VarHandle" ∧ (parseMethodDescriptor y.desc).map (fun d => d.parameters.length) = some As.length) (hd : decode cc pc = .ok (.invokestatic index, 3)) (hC : mo_Ct lf ρf y bytes maxL ret' d' kc ks As G M t post) (hst : st = As.reverse ++ rest) (hdd : d' + 1 ≤ d) (hmx : maxL ≤ 11) (hsum : (rest.map fun v => v.category).sum ≤ 8) (hroom : mo_Rm κ (k + kc) (n + ks)) (kk : ∀ v G' M' t', post v G' M' t' → mo_V κ (k + kc) (n + ks) (pc + 3) ls (v.toList ++ rest) G' M' t') : mo_V κ k n pc ls st G M t := by
  obtain ⟨⟨p, l, e, R, s⟩, ⟨m, args, below, meth, c⟩, Q, ρ⟩ := κ
  obtain ⟨hx, hb, hml, hown, hts, hK, hlk, hrt, hb0, hRf, hRl, hlf, hρ⟩ := X
  subst hlf
  subst hρ
  intro H locs lr ht hR hS hl
  refine mo_back (va_runS (As := As) (rest := rest) ⟨hx, hb, hml, hown, hts⟩ hC (va_cwS As.length hts (mo_gwS hL) rfl rfl rfl hy ⟨Nat.le_trans hdd hRf, by show 8 + (maxL + 11) + 30 * d' ≤ R.locals; omega⟩) ⟨mo_fb _ _ _ _ _, fun U hU hW => ⟨rfl, by rw [hU]; exact ht, by rw [hU]; exact hR, va_K.moved hW.alike hK, by rw [← ht]; exact Nat.le_trans hb0 hS.1⟩⟩ rfl rfl (hl.1.trans hml) hst (lv_room hsum) hd hroom) hS ?_
  intro v G' M' t' hp H' locs' hz hR' hS'
  exact kk v G' M' t' hp H' locs' lr hz hR' hS' hl
theorem mo_callIr (X : mo_Cx κ lf ρf cc nL own ret d) {y : MethodName} {bytes : ByteArray} {maxL d' kc ks b index : Nat} {As rest : List Value} {post : Option Value → mo_G → mo_M → Nat → Prop} (hL : mo_LkI own index y bytes maxL) (hy1 : y.name = "<init>") (hy : y.cls ≠ "java/lang/invoke/MethodHandle" ∧ y.cls ≠ "java/lang/invoke/VarHandle" ∧ (parseMethodDescriptor y.desc).map (fun d => d.parameters.length) = some As.length) (hd : decode cc pc = .ok (.invokespecial index, 3)) (hC : mo_Ct lf ρf y bytes maxL none d' kc ks (.ref b :: As) G M t post) (hst : st = As.reverse ++ .ref b :: rest) (hdd : d' + 1 ≤ d) (hmx : maxL ≤ 11) (hsum : (rest.map fun v => v.category).sum ≤ 8) (hroom : mo_Rm κ (k + kc) (n + ks)) (kk : ∀ v G' M' t', post v G' M' t' → mo_V κ (k + kc) (n + ks) (pc + 3) ls (v.toList ++ rest) G' M' t') : mo_V κ k n pc ls st G M t := by
  obtain ⟨⟨p, l, e, R, s⟩, ⟨m, args, below, meth, c⟩, Q, ρ⟩ := κ
  obtain ⟨hx, hb, hml, hown, hts, hK, hlk, hrt, hb0, hRf, hRl, hlf, hρ⟩ := X
  subst hlf
  subst hρ
  intro H locs lr ht hR hS hl
  refine mo_back (va_runI (As := As) (rest := rest) ⟨hx, hb, hml, hown, hts⟩ hC (cwI As.length hts (mo_gw hL.2.2.2) rfl rfl rfl (hts _ hL.2.2.1) (hts _ hL.1) (hts _ hL.2.1) hy1 hy ⟨Nat.le_trans hdd hRf, by show 8 + (maxL + 11) + 30 * d' ≤ R.locals; omega⟩) ⟨mo_fb _ _ _ _ _, fun U hU hW => ⟨rfl, by rw [hU]; exact ht, by rw [hU]; exact hR, va_K.moved hW.alike hK, by rw [← ht]; exact Nat.le_trans hb0 hS.1⟩⟩ rfl rfl (hl.1.trans hml) hst (lv_room hsum) hd hroom) hS ?_
  intro v G' M' t' hp H' locs' hz hR' hS'
  exact kk v G' M' t' hp H' locs' lr hz hR' hS' hl
def mo_pi (G : mo_G) (t : Nat) (P : Int → mo_M → Prop) : Option Value → mo_G → mo_M → Nat → Prop := fun v G' M' t' => G' = G ∧ t' = t ∧ ∃ x, v = some (mo_iv x) ∧ P x M'
def mo_pj (G : mo_G) (t : Nat) (P : Int → mo_M → Prop) : Option Value → mo_G → mo_M → Nat → Prop := fun v G' M' t' => G' = G ∧ t' = t ∧ ∃ x, v = some (mo_jv x) ∧ P x M'
def mo_pv (G : mo_G) (t : Nat) (P : mo_M → Prop) : Option Value → mo_G → mo_M → Nat → Prop := fun v G' M' t' => G' = G ∧ t' = t ∧ v = none ∧ P M'
theorem mo_rm0 (κ : mo_T) : mo_Rm κ (0 + 0) (0 + 0) := ⟨Nat.zero_le _, Nat.zero_le _⟩
theorem mo_cVI (X : mo_Cx κ lf ρf cc nL own ret d) {y : MethodName} {bytes : ByteArray} {maxL d' b ci N index : Nat} {ret' : Option FieldType} {As rest : List Value} {C : String} {T : u_T} {P : Int → mo_M → Prop} (hL : mo_LkV own index C y bytes maxL ret') (hy : mo_dV y C As.length) (hcl : vwCl[ci]? = some (C, T, N)) (hd : decode cc pc = .ok (.invokevirtual index, 3)) (hC : mo_Ct lf ρf y bytes maxL ret' d' 0 0 (.ref b :: As) G M t (mo_pi G t P)) (hG : G.1 b = some (.inl ci)) (hst : st = As.reverse ++ .ref b :: rest) (hdd : d' + 1 ≤ d) (hmx : maxL ≤ 11) (hsum : (rest.map fun v => v.category).sum ≤ 8) (kk : ∀ (x : Int) (M' : mo_M), P x M' → mo_V κ 0 0 (pc + 3) ls (mo_iv x :: rest) G M' t) : mo_V κ 0 0 pc ls st G M t := by
  refine mo_callVr X hL hy hcl hd hC hG hst hdd hmx hsum (mo_rm0 κ) ?_
  intro v G' M' t' hp
  obtain ⟨rfl, rfl, x, rfl, hP⟩ := hp
  exact kk x M' hP
theorem mo_cSI (X : mo_Cx κ lf ρf cc nL own ret d) {y : MethodName} {bytes : ByteArray} {maxL d' index : Nat} {ret' : Option FieldType} {As rest : List Value} {P : Int → mo_M → Prop} (hL : mo_LkS own index y bytes maxL ret') (hy : y.cls ≠ "java/lang/invoke/MethodHandle" ∧ y.cls ≠ "java/lang/invoke/VarHandle" ∧ (parseMethodDescriptor y.desc).map (fun d => d.parameters.length) = some As.length) (hd : decode cc pc = .ok (.invokestatic index, 3)) (hC : mo_Ct lf ρf y bytes maxL ret' d' 0 0 As G M t (mo_pi G t P)) (hst : st = As.reverse ++ rest) (hdd : d' + 1 ≤ d) (hmx : maxL ≤ 11) (hsum : (rest.map fun v => v.category).sum ≤ 8) (kk : ∀ (x : Int) (M' : mo_M), P x M' → mo_V κ 0 0 (pc + 3) ls (mo_iv x :: rest) G M' t) : mo_V κ 0 0 pc ls st G M t := by
  refine mo_callSr X hL hy hd hC hst hdd hmx hsum (mo_rm0 κ) ?_
  intro v G' M' t' hp
  obtain ⟨rfl, rfl, x, rfl, hP⟩ := hp
  exact kk x M' hP
theorem mo_cVJ (X : mo_Cx κ lf ρf cc nL own ret d) {y : MethodName} {bytes : ByteArray} {maxL d' b ci N index : Nat} {ret' : Option FieldType} {As rest : List Value} {C : String} {T : u_T} {P : Int → mo_M → Prop} (hL : mo_LkV own index C y bytes maxL ret') (hy : mo_dV y C As.length) (hcl : vwCl[ci]? = some (C, T, N)) (hd : decode cc pc = .ok (.invokevirtual index, 3)) (hC : mo_Ct lf ρf y bytes maxL ret' d' 0 0 (.ref b :: As) G M t (mo_pj G t P)) (hG : G.1 b = some (.inl ci)) (hst : st = As.reverse ++ .ref b :: rest) (hdd : d' + 1 ≤ d) (hmx : maxL ≤ 11) (hsum : (rest.map fun v => v.category).sum ≤ 8) (kk : ∀ (x : Int) (M' : mo_M), P x M' → mo_V κ 0 0 (pc + 3) ls (mo_jv x :: rest) G M' t) : mo_V κ 0 0 pc ls st G M t := by
  refine mo_callVr X hL hy hcl hd hC hG hst hdd hmx hsum (mo_rm0 κ) ?_
  intro v G' M' t' hp
  obtain ⟨rfl, rfl, x, rfl, hP⟩ := hp
  exact kk x M' hP
theorem mo_cSJ (X : mo_Cx κ lf ρf cc nL own ret d) {y : MethodName} {bytes : ByteArray} {maxL d' index : Nat} {ret' : Option FieldType} {As rest : List Value} {P : Int → mo_M → Prop} (hL : mo_LkS own index y bytes maxL ret') (hy : y.cls ≠ "java/lang/invoke/MethodHandle" ∧ y.cls ≠ "java/lang/invoke/VarHandle" ∧ (parseMethodDescriptor y.desc).map (fun d => d.parameters.length) = some As.length) (hd : decode cc pc = .ok (.invokestatic index, 3)) (hC : mo_Ct lf ρf y bytes maxL ret' d' 0 0 As G M t (mo_pj G t P)) (hst : st = As.reverse ++ rest) (hdd : d' + 1 ≤ d) (hmx : maxL ≤ 11) (hsum : (rest.map fun v => v.category).sum ≤ 8) (kk : ∀ (x : Int) (M' : mo_M), P x M' → mo_V κ 0 0 (pc + 3) ls (mo_jv x :: rest) G M' t) : mo_V κ 0 0 pc ls st G M t := by
  refine mo_callSr X hL hy hd hC hst hdd hmx hsum (mo_rm0 κ) ?_
  intro v G' M' t' hp
  obtain ⟨rfl, rfl, x, rfl, hP⟩ := hp
  exact kk x M' hP
theorem mo_cVV (X : mo_Cx κ lf ρf cc nL own ret d) {y : MethodName} {bytes : ByteArray} {maxL d' b ci N index : Nat} {ret' : Option FieldType} {As rest : List Value} {C : String} {T : u_T} {P : mo_M → Prop} (hL : mo_LkV own index C y bytes maxL ret') (hy : mo_dV y C As.length) (hcl : vwCl[ci]? = some (C, T, N)) (hd : decode cc pc = .ok (.invokevirtual index, 3)) (hC : mo_Ct lf ρf y bytes maxL ret' d' 0 0 (.ref b :: As) G M t (mo_pv G t P)) (hG : G.1 b = some (.inl ci)) (hst : st = As.reverse ++ .ref b :: rest) (hdd : d' + 1 ≤ d) (hmx : maxL ≤ 11) (hsum : (rest.map fun v => v.category).sum ≤ 8) (kk : ∀ (M' : mo_M), P M' → mo_V κ 0 0 (pc + 3) ls rest G M' t) : mo_V κ 0 0 pc ls st G M t := by
  refine mo_callVr X hL hy hcl hd hC hG hst hdd hmx hsum (mo_rm0 κ) ?_
  intro v G' M' t' hp
  obtain ⟨rfl, rfl, rfl, hP⟩ := hp
  exact kk M' hP
theorem mo_cSV (X : mo_Cx κ lf ρf cc nL own ret d) {y : MethodName} {bytes : ByteArray} {maxL d' index : Nat} {ret' : Option FieldType} {As rest : List Value} {P : mo_M → Prop} (hL : mo_LkS own index y bytes maxL ret') (hy : y.cls ≠ "java/lang/invoke/MethodHandle" ∧ y.cls ≠ "java/lang/invoke/VarHandle" ∧ (parseMethodDescriptor y.desc).map (fun d => d.parameters.length) = some As.length) (hd : decode cc pc = .ok (.invokestatic index, 3)) (hC : mo_Ct lf ρf y bytes maxL ret' d' 0 0 As G M t (mo_pv G t P)) (hst : st = As.reverse ++ rest) (hdd : d' + 1 ≤ d) (hmx : maxL ≤ 11) (hsum : (rest.map fun v => v.category).sum ≤ 8) (kk : ∀ (M' : mo_M), P M' → mo_V κ 0 0 (pc + 3) ls rest G M' t) : mo_V κ 0 0 pc ls st G M t := by
  refine mo_callSr X hL hy hd hC hst hdd hmx hsum (mo_rm0 κ) ?_
  intro v G' M' t' hp
  obtain ⟨rfl, rfl, rfl, hP⟩ := hp
  exact kk M' hP
theorem mo_iret (X : mo_Cx κ lf ρf cc nL own ret d) {post : Option Value → mo_G → mo_M → Nat → Prop} (Y : mo_Rt κ post k n) {x : Int} (hr : ret = some .int) (hd : decode cc pc = .ok (.ireturn, 1)) (hp : post (some (mo_iv x)) G M t) : mo_V κ k n pc ls [mo_iv x] G M t := by
  obtain ⟨⟨p, l, e, R, s⟩, ⟨m, args, below, meth, c⟩, Q, ρ⟩ := κ
  obtain ⟨hx, hb, hml, hown, hts, hK, hlk, hrt, hb0, hRf, hRl, hlf, hρ⟩ := X
  have hY : Q = MQ below (mo_Qc ρ post) args s k n (mo_fr ρ) := Y
  subst hY
  intro H locs lr ht hR hS hl
  exact W.iret hx hb (hrt.trans hr) (fun u hu hW => ⟨⟨_, G, M, rfl, by rw [hu, ht]; exact hp, by rw [hu]; exact hR⟩, hS.F hu⟩) hS.2.2 hd hlk
theorem mo_zret (X : mo_Cx κ lf ρf cc nL own ret d) {post : Option Value → mo_G → mo_M → Nat → Prop} (Y : mo_Rt κ post k n) {x : Int} (hr : ret = some .boolean) (h01 : x = 0 ∨ x = 1) (hd : decode cc pc = .ok (.ireturn, 1)) (hp : post (some (mo_iv x)) G M t) : mo_V κ k n pc ls [mo_iv x] G M t := by
  obtain ⟨⟨p, l, e, R, s⟩, ⟨m, args, below, meth, c⟩, Q, ρ⟩ := κ
  obtain ⟨hx, hb, hml, hown, hts, hK, hlk, hrt, hb0, hRf, hRl, hlf, hρ⟩ := X
  have hY : Q = MQ below (mo_Qc ρ post) args s k n (mo_fr ρ) := Y
  subst hY
  intro H locs lr ht hR hS hl
  exact W.zret hx hb (hrt.trans hr) (by rcases h01 with rfl | rfl <;> rfl) (fun u hu hW => ⟨⟨_, G, M, rfl, by rw [hu, ht]; exact hp, by rw [hu]; exact hR⟩, hS.F hu⟩) hS.2.2 hd hlk
theorem mo_vret (X : mo_Cx κ lf ρf cc nL own ret d) {post : Option Value → mo_G → mo_M → Nat → Prop} (Y : mo_Rt κ post k n) (hr : ret = none) (hd : decode cc pc = .ok (.return_, 1)) (hp : post none G M t) : mo_V κ k n pc ls [] G M t := by
  obtain ⟨⟨p, l, e, R, s⟩, ⟨m, args, below, meth, c⟩, Q, ρ⟩ := κ
  obtain ⟨hx, hb, hml, hown, hts, hK, hlk, hrt, hb0, hRf, hRl, hlf, hρ⟩ := X
  have hY : Q = MQ below (mo_Qc ρ post) args s k n (mo_fr ρ) := Y
  subst hY
  intro H locs lr ht hR hS hl
  exact W.vret hx hb (hrt.trans hr) (fun u hu hW => ⟨⟨_, G, M, rfl, by rw [hu, ht]; exact hp, by rw [hu]; exact hR⟩, hS.F hu⟩) hS.2.2 hd hlk
theorem mo_lret (X : mo_Cx κ lf ρf cc nL own ret d) {post : Option Value → mo_G → mo_M → Nat → Prop} (Y : mo_Rt κ post k n) {x : Int} (hr : ret = some .long) (hd : decode cc pc = .ok (.lreturn, 1)) (hp : post (some (mo_jv x)) G M t) : mo_V κ k n pc ls [mo_jv x] G M t := by
  obtain ⟨⟨p, l, e, R, s⟩, ⟨m, args, below, meth, c⟩, Q, ρ⟩ := κ
  obtain ⟨hx, hb, hml, hown, hts, hK, hlk, hrt, hb0, hRf, hRl, hlf, hρ⟩ := X
  have hY : Q = MQ below (mo_Qc ρ post) args s k n (mo_fr ρ) := Y
  subst hY
  intro H locs lr ht hR hS hl
  exact W.lret hx hb (hrt.trans hr) (fun u hu hW => ⟨⟨_, G, M, rfl, by rw [hu, ht]; exact hp, by rw [hu]; exact hR⟩, hS.F hu⟩) hS.2.2 hd hlk
theorem mo_max (X : mo_Cx κ lf ρf cc nL own ret d) {index : Nat} {x y : Int} (hd : decode cc pc = .ok (.invokestatic index, 3)) (hw : Cond.methodLink own index Lib.Math.max.name ∈ mo_B) (h1 : mo_In x) (h2 : mo_In y) (hdd : 1 ≤ d) (hsum : (st.map fun v => v.category).sum ≤ 8) (hk0 : k = 0 ∧ n = 0) (kk : mo_V κ k n (pc + 3) ls (mo_iv (if x < y then y else x) :: st) G M t) : mo_V κ k n pc ls (mo_iv y :: mo_iv x :: st) G M t := by
  obtain ⟨⟨p, l, e, R, s⟩, ⟨m, args, below, meth, c⟩, Q, ρ⟩ := κ
  obtain ⟨hx, hb, hml, hown, hts, hK, hlk, hrt, hb0, hRf, hRl, hlf, hρ⟩ := X
  intro H locs lr ht hR hS hl
  obtain ⟨rfl, rfl⟩ := hk0
  refine va_mmax hx hb (by rw [hl.1]) hown (hts _ hw) (hts _ (by decide +kernel)) (hts _ (by decide +kernel)) (hts _ (by decide +kernel)) (Nat.le_trans hdd hRf) (by omega) (Nat.zero_le _) (Nat.zero_le _) hd ?_
  have h := kk H locs lr ht hR hS hl
  by_cases c1 : x < y
  · rw [if_pos c1] at h
    rw [if_pos ((mo_lt h1 h2).mpr c1)]
    exact h
  · rw [if_neg c1] at h
    rw [if_neg (fun q => c1 ((mo_lt h1 h2).mp q))]
    exact h
theorem mo_min (X : mo_Cx κ lf ρf cc nL own ret d) {index : Nat} {x y : Int} (hd : decode cc pc = .ok (.invokestatic index, 3)) (hw : Cond.methodLink own index Lib.Math.min.name ∈ mo_B) (h1 : mo_In x) (h2 : mo_In y) (hdd : 1 ≤ d) (hsum : (st.map fun v => v.category).sum ≤ 8) (hk0 : k = 0 ∧ n = 0) (kk : mo_V κ k n (pc + 3) ls (mo_iv (if y < x then y else x) :: st) G M t) : mo_V κ k n pc ls (mo_iv y :: mo_iv x :: st) G M t := by
  obtain ⟨⟨p, l, e, R, s⟩, ⟨m, args, below, meth, c⟩, Q, ρ⟩ := κ
  obtain ⟨hx, hb, hml, hown, hts, hK, hlk, hrt, hb0, hRf, hRl, hlf, hρ⟩ := X
  intro H locs lr ht hR hS hl
  obtain ⟨rfl, rfl⟩ := hk0
  refine va_mmin hx hb (by rw [hl.1]) hown (hts _ hw) (hts _ (by decide +kernel)) (hts _ (by decide +kernel)) (hts _ (by decide +kernel)) (Nat.le_trans hdd hRf) (by omega) (Nat.zero_le _) (Nat.zero_le _) hd ?_
  have h := kk H locs lr ht hR hS hl
  by_cases c1 : y < x
  · rw [if_pos c1] at h
    rw [if_pos ((mo_lt h2 h1).mpr c1)]
    exact h
  · rw [if_neg c1] at h
    rw [if_neg (fun q => c1 ((mo_lt h2 h1).mp q))]
    exact h
theorem mo_swIn (X : mo_Cx κ lf ρf cc nL own ret d) {dflt lo hi : Int} {offs : Array Int} {len : Nat} {x off : Int} {tgt : Nat} (hd : decode cc pc = .ok (.tableswitch dflt lo hi offs, len)) (hx0 : mo_In x) (h1 : lo ≤ x) (h2 : x ≤ hi) (ho : offs[(x - lo).toNat]? = some off) (htg : (pc : Int) + off = (tgt : Int)) (kk : mo_V κ k n tgt ls st G M t) : mo_V κ k n pc ls (mo_iv x :: st) G M t := by
  obtain ⟨⟨p, l, e, R, s⟩, ⟨m, args, below, meth, c⟩, Q, ρ⟩ := κ
  obtain ⟨hx, hb, hml, hown, hts, hK, hlk, hrt, hb0, hRf, hRl, hlf, hρ⟩ := X
  intro H locs lr ht hR hS hl
  exact lv_tableIn hx hb hd (by rw [mo_ti hx0]; omega) (by rw [mo_ti hx0]; omega) (by rw [mo_ti hx0]; exact ho) htg (kk H locs lr ht hR hS hl)
theorem mo_swOut (X : mo_Cx κ lf ρf cc nL own ret d) {dflt lo hi : Int} {offs : Array Int} {len : Nat} {x : Int} {tgt : Nat} (hd : decode cc pc = .ok (.tableswitch dflt lo hi offs, len)) (hx0 : mo_In x) (h1 : x < lo ∨ hi < x) (htg : (pc : Int) + dflt = (tgt : Int)) (kk : mo_V κ k n tgt ls st G M t) : mo_V κ k n pc ls (mo_iv x :: st) G M t := by
  obtain ⟨⟨p, l, e, R, s⟩, ⟨m, args, below, meth, c⟩, Q, ρ⟩ := κ
  obtain ⟨hx, hb, hml, hown, hts, hK, hlk, hrt, hb0, hRf, hRl, hlf, hρ⟩ := X
  intro H locs lr ht hR hS hl
  exact lv_tableOut hx hb hd (by rw [mo_ti hx0]; exact h1) htg (kk H locs lr ht hR hS hl)
theorem mo_lsw (X : mo_Cx κ lf ρf cc nL own ret d) {dflt : Int} {ps : Array (Int × Int)} {len : Nat} {x off : Int} {tgt : Nat} (hd : decode cc pc = .ok (.lookupswitch dflt ps, len)) (hx0 : mo_In x) (hs : (ps.toList.zip (ps.toList.drop 1)).all (fun (a, next) => a.1 < next.1) = true) (ho : Op.lookupswitch.offset ps.toList dflt x = off) (htg : (pc : Int) + off = (tgt : Int)) (kk : mo_V κ k n tgt ls st G M t) : mo_V κ k n pc ls (mo_iv x :: st) G M t := by
  obtain ⟨⟨p, l, e, R, s⟩, ⟨m, args, below, meth, c⟩, Q, ρ⟩ := κ
  obtain ⟨hx, hb, hml, hown, hts, hK, hlk, hrt, hb0, hRf, hRl, hlf, hρ⟩ := X
  intro H locs lr ht hR hS hl
  exact lv_lookup hx hb hd hs (by rw [mo_ti hx0]; exact ho) htg (kk H locs lr ht hR hS hl)
theorem mo_copy (X : mo_Cx κ lf ρf cc nL own ret d) {index a a0 n0 n1 : Nat} {sp dp z : Int} (hd : decode cc pc = .ok (.invokestatic index, 3)) (hw : Cond.methodLink own index arraycopyName ∈ mo_B) (hG0 : G.1 a0 = some (.inr (0, n0))) (hG1 : G.1 a = some (.inr (0, n1))) (hn0 : (n0 : Int) ≤ 2147483647) (hn1 : (n1 : Int) ≤ 2147483647) (h1 : 0 ≤ sp) (h2 : 0 ≤ dp) (h3 : 0 ≤ z) (h4 : sp + z ≤ n0) (h5 : dp + z ≤ n1) (hdd : 1 ≤ d) (hsum : (st.map fun v => v.category).sum + (nativeFrameWords "java/lang/System" "arraycopy" 5 + 11) ≤ 30) (kk : mo_V κ k n (pc + 3) ls st G (mo_ur M a (va_cpy (M a0) (M a) sp.toNat dp.toNat z.toNat)) t) : mo_V κ k n pc ls (mo_iv z :: mo_iv dp :: .ref a :: mo_iv sp :: .ref a0 :: st) G M t := by
  obtain ⟨⟨p, l, e, R, s⟩, ⟨m, args, below, meth, c⟩, Q, ρ⟩ := κ
  obtain ⟨hx, hb, hml, hown, hts, hK, hlk, hrt, hb0, hRf, hRl, hlf, hρ⟩ := X
  intro H locs lr ht hR hS hl
  have e1 : (Int32.ofInt sp).toNatClampNeg = sp.toNat := mo_cl (by omega) h1
  have e2 : (Int32.ofInt dp).toNatClampNeg = dp.toNat := mo_cl (by omega) h2
  have e3 : (Int32.ofInt z).toNatClampNeg = z.toNat := mo_cl (by omega) h3
  have nn : ∀ {y : Int}, 0 ≤ y → y ≤ 2147483647 → ¬ Int32.ofInt y < 0 := fun {y} g1 g2 g3 => by
    rw [mo_0, mo_lt (by omega) (by omega)] at g3
    omega
  have hc0 : H[a0]? = some (vp_cell ρ.2.1.1 (n0, .inl (fun j => Int32.ofInt (M a0 j)))) := (hR a0 _ hG0).2
  have hc1 : H[a]? = some (vp_cell ρ.2.1.1 (n1, .inl (fun j => Int32.ofInt (M a j)))) := (hR a _ hG1).2
  obtain ⟨-, k0, hk0, cm0, hkk0⟩ := (hK.2 0 _ rfl).1 n0 (fun j => mo_iv (M a0 j))
  obtain ⟨-, k1, hk1, cm1, hkk1⟩ := (hK.2 0 _ rfl).1 n1 (fun j => mo_iv (M a j))
  intro T hT XT
  obtain ⟨vm', X', step⟩ := XT.arraycopy hx hown (hts _ hw) (hts _ (mo_tb1 217 rfl rfl)) (hts _ (mo_tb1 216 rfl rfl)) (hts _ mo_wsys) (src := a0) (dst := a) (cs := vp_cell ρ.2.1.1 (n0, .inl (fun j => Int32.ofInt (M a0 j)))) (cd := vp_cell ρ.2.1.1 (n1, .inl (fun j => Int32.ofInt (M a j)))) (srcPos := Int32.ofInt sp) (destPos := Int32.ofInt dp) (n := Int32.ofInt z) (by rw [hT]; exact hc0) (by rw [hT]; exact hc1)
    (fun _ h => by cases h) (fun _ h => by cases h) (fun h => by cases h) (fun h => by cases h) hk0 hk1 hkk0 hkk1 rfl (nn h1 (by omega)) (nn h2 (by omega)) (nn h3 (by omega))
    (by rw [mo_ti (by omega), mo_ti (by omega)]; show ¬ _ > ((arrV _ n0 _).slots.size : Int); rw [arrV_size]; omega)
    (by rw [mo_ti (by omega), mo_ti (by omega)]; show ¬ _ > ((arrV _ n1 _).slots.size : Int); rw [arrV_size]; omega)
    (fun vm₁ _ i hi => by
      have e : (vp_cell ρ.2.1.1 (n0, .inl (fun j => Int32.ofInt (M a0 j)))).slots.getD ((Int32.ofInt sp).toNatClampNeg + i) .null = mo_iv (M a0 ((Int32.ofInt sp).toNatClampNeg + i)) := by
        show (arrV ρ.2.1.1 n0 (fun j => mo_iv (M a0 j))).slots.getD _ _ = _
        rw [Array.getD_eq_getD_getElem?, arrV_read _ _ (by rw [e1]; rw [e3] at hi; omega)]
        rfl
      refine ⟨?_, ?_⟩
      · rw [e]
        rfl
      · rw [e]
        exact trivial)
    (g := F0 m pc lr (mo_iv z :: mo_iv dp :: .ref a :: mo_iv sp :: .ref a0 :: st)) rfl hl.1 (rest := st) rfl (by rw [hb]; exact hd) (Nat.le_trans hdd hRf) (by show 2 * 0 + _ + _ ≤ _; omega)
  have ec : copied (vp_cell ρ.2.1.1 (n0, .inl (fun j => Int32.ofInt (M a0 j)))) (vp_cell ρ.2.1.1 (n1, .inl (fun j => Int32.ofInt (M a j)))) (Int32.ofInt sp) (Int32.ofInt dp) (Int32.ofInt z) = vp_cell ρ.2.1.1 (n1, .inl (va_cpy (fun j => Int32.ofInt (M a0 j)) (fun j => Int32.ofInt (M a j)) sp.toNat dp.toNat z.toNat)) := by
    have h := va_copied (fun z => Value.int z) ρ.2.1.1 ρ.2.1.1 (n0 := n0) (n1 := n1) (fun j => Int32.ofInt (M a0 j)) (fun j => Int32.ofInt (M a j)) (sp := (Int32.ofInt sp).toNatClampNeg) (dp := (Int32.ofInt dp).toNatClampNeg) (n := (Int32.ofInt z).toNatClampNeg) (by rw [e1, e3]; omega)
    refine Eq.trans h ?_
    rw [e1, e2, e3]
    rfl
  rw [ec] at X' step
  have hlt : a < H.size := (Array.getElem?_eq_some_iff.mp hc1).1
  generalize hC : vp_cell ρ.2.1.1 (n1, .inl (va_cpy (fun j => Int32.ofInt (M a0 j)) (fun j => Int32.ofInt (M a j)) sp.toNat dp.toNat z.toNat)) = C1 at X' step
  have hheap : ((T.setVm vm').setCell a C1).heap = H.setIfInBounds a C1 := by rw [← hT]; rfl
  have oq : ∀ q : Nat, q ≠ a → (H.setIfInBounds a C1)[q]? = H[q]? := fun q hq => by simp [Array.getElem?_setIfInBounds, Ne.symm hq]
  have hcell : (H.setIfInBounds a C1)[a]? = some C1 := by simp [Array.getElem?_setIfInBounds, hlt]
  obtain ⟨u, a1, b1⟩ := kk (H.setIfInBounds a C1) _ lr (by simp; exact ht) (mo_R_set hR hG1 (by
      show (H.setIfInBounds a C1)[a]? = some (vp_cell _ _)
      rw [hcell, ← hC]
      congr 3
      refine congrArg Sum.inl ?_
      funext j
      rw [mo_ur_s]
      unfold va_cpy
      split <;> rfl) oq) ⟨by simp; exact hS.1, fun q g1 g2 => by
      rw [oq q (fun e => g2 (by rw [e]; exact (hR a _ hG1).1))]
      exact hS.2.1 q g1 g2, fun q hq => by
      rcases List.mem_append.mp hq with h | h
      · exact hS.2.2 q h
      · obtain ⟨y, -, hy⟩ := List.mem_map.mp h
        rw [← hy]
        exact (hR a _ hG1).1⟩ hl _ hheap X'
  exact ⟨u, step u a1, b1⟩
end MOS
end
