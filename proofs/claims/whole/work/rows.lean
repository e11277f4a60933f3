section
-- ===== PART A: goes FIRST, ahead of the names: the tables' words, and 'selects' of the private methods out of them =====
/-- a private method of a class that the tables say can be made, by its rows of tables_1 -/
def lw_okq (q : MethodName × Nat) : Prop := (q.1.cls ≠ "java/lang/invoke/MethodHandle" ∧ q.1.cls ≠ "java/lang/invoke/VarHandle") ∧ Cond.instantiable q.1.cls q.2 ∈ tables_1 ∧ Cond.privateMethod q.1 ∈ tables_1 ∧ Cond.instanceMethod q.1 ∈ tables_1
theorem lw_p0 : lw_okq (⟨"MeetingOrders$WeekBook", "greatestDebt", "(LMeetingOrders$State;)I"⟩, 8) := ⟨⟨by decide +kernel, by decide +kernel⟩, List.mem_of_getElem? (i := 109) (by decide +kernel), List.mem_of_getElem? (i := 283) (by decide +kernel), List.mem_of_getElem? (i := 284) (by decide +kernel)⟩
theorem lw_p1 : lw_okq (⟨"MeetingOrders$WeekBook", "freestEscort", "(LMeetingOrders$State;I)I"⟩, 8) := ⟨⟨by decide +kernel, by decide +kernel⟩, List.mem_of_getElem? (i := 109) (by decide +kernel), List.mem_of_getElem? (i := 295) (by decide +kernel), List.mem_of_getElem? (i := 296) (by decide +kernel)⟩
theorem lw_p2 : lw_okq (⟨"MeetingOrders$WeekBook", "firstVenue", "(LMeetingOrders$State;II)I"⟩, 8) := ⟨⟨by decide +kernel, by decide +kernel⟩, List.mem_of_getElem? (i := 109) (by decide +kernel), List.mem_of_getElem? (i := 299) (by decide +kernel), List.mem_of_getElem? (i := 300) (by decide +kernel)⟩
theorem lw_p3 : lw_okq (⟨"MeetingOrders$OrderText", "readOrder", "()Z"⟩, 8) := ⟨⟨by decide +kernel, by decide +kernel⟩, List.mem_of_getElem? (i := 143) (by decide +kernel), List.mem_of_getElem? (i := 358) (by decide +kernel), List.mem_of_getElem? (i := 359) (by decide +kernel)⟩
theorem lw_p4 : lw_okq (⟨"MeetingOrders$OrderText", "byteHere", "()I"⟩, 8) := ⟨⟨by decide +kernel, by decide +kernel⟩, List.mem_of_getElem? (i := 143) (by decide +kernel), List.mem_of_getElem? (i := 362) (by decide +kernel), List.mem_of_getElem? (i := 363) (by decide +kernel)⟩
theorem lw_p5 : lw_okq (⟨"MeetingOrders$OrderText", "readDigit", "(ILMeetingOrders$Row;)Z"⟩, 8) := ⟨⟨by decide +kernel, by decide +kernel⟩, List.mem_of_getElem? (i := 143) (by decide +kernel), List.mem_of_getElem? (i := 368) (by decide +kernel), List.mem_of_getElem? (i := 369) (by decide +kernel)⟩
theorem lw_p6 : lw_okq (⟨"MeetingOrders$OrderText", "isDigitHere", "()Z"⟩, 8) := ⟨⟨by decide +kernel, by decide +kernel⟩, List.mem_of_getElem? (i := 143) (by decide +kernel), List.mem_of_getElem? (i := 372) (by decide +kernel), List.mem_of_getElem? (i := 373) (by decide +kernel)⟩
theorem lw_p7 : lw_okq (⟨"MeetingOrders$OrderText", "readNumber", "(ILMeetingOrders$Row;)Z"⟩, 8) := ⟨⟨by decide +kernel, by decide +kernel⟩, List.mem_of_getElem? (i := 143) (by decide +kernel), List.mem_of_getElem? (i := 376) (by decide +kernel), List.mem_of_getElem? (i := 377) (by decide +kernel)⟩
theorem lw_p8 : lw_okq (⟨"MeetingOrders$OrderText", "readSign", "(I)Z"⟩, 8) := ⟨⟨by decide +kernel, by decide +kernel⟩, List.mem_of_getElem? (i := 143) (by decide +kernel), List.mem_of_getElem? (i := 380) (by decide +kernel), List.mem_of_getElem? (i := 381) (by decide +kernel)⟩
theorem lw_p9 : lw_okq (⟨"MeetingOrders", "save", "()V"⟩, 6) := ⟨⟨by decide +kernel, by decide +kernel⟩, List.mem_of_getElem? (i := 16) (by decide +kernel), List.mem_of_getElem? (i := 384) (by decide +kernel), List.mem_of_getElem? (i := 385) (by decide +kernel)⟩
theorem lw_p10 : lw_okq (⟨"MeetingOrders", "carryOutOne", "(IIII)Z"⟩, 6) := ⟨⟨by decide +kernel, by decide +kernel⟩, List.mem_of_getElem? (i := 16) (by decide +kernel), List.mem_of_getElem? (i := 389) (by decide +kernel), List.mem_of_getElem? (i := 390) (by decide +kernel)⟩
theorem lw_p11 : lw_okq (⟨"MeetingOrders", "mayChange", "(II)Z"⟩, 6) := ⟨⟨by decide +kernel, by decide +kernel⟩, List.mem_of_getElem? (i := 16) (by decide +kernel), List.mem_of_getElem? (i := 397) (by decide +kernel), List.mem_of_getElem? (i := 398) (by decide +kernel)⟩
theorem lw_p12 : lw_okq (⟨"MeetingOrders", "settleIfOpen", "(II)Z"⟩, 6) := ⟨⟨by decide +kernel, by decide +kernel⟩, List.mem_of_getElem? (i := 16) (by decide +kernel), List.mem_of_getElem? (i := 415) (by decide +kernel), List.mem_of_getElem? (i := 416) (by decide +kernel)⟩
theorem lw_p13 : lw_okq (⟨"java/lang/Throwable", "fillInStackTrace", "(I)Ljava/lang/Throwable;"⟩, 6) := ⟨⟨by decide +kernel, by decide +kernel⟩, List.mem_of_getElem? (i := 477) (by decide +kernel), List.mem_of_getElem? (i := 475) (by decide +kernel), List.mem_of_getElem? (i := 476) (by decide +kernel)⟩
theorem lw_p14 : lw_okq (⟨"MeetingOrders", "digestOfOrder", "(JI)J"⟩, 6) := ⟨⟨by decide +kernel, by decide +kernel⟩, List.mem_of_getElem? (i := 16) (by decide +kernel), List.mem_of_getElem? (i := 507) (by decide +kernel), List.mem_of_getElem? (i := 508) (by decide +kernel)⟩
theorem lw_p15 : lw_okq (⟨"MeetingOrders", "digestOfMeeting", "(JI)J"⟩, 6) := ⟨⟨by decide +kernel, by decide +kernel⟩, List.mem_of_getElem? (i := 16) (by decide +kernel), List.mem_of_getElem? (i := 549) (by decide +kernel), List.mem_of_getElem? (i := 550) (by decide +kernel)⟩
def lw_privs_1 : List (MethodName × Nat) := [(⟨"MeetingOrders$WeekBook", "greatestDebt", "(LMeetingOrders$State;)I"⟩, 8), (⟨"MeetingOrders$WeekBook", "freestEscort", "(LMeetingOrders$State;I)I"⟩, 8), (⟨"MeetingOrders$WeekBook", "firstVenue", "(LMeetingOrders$State;II)I"⟩, 8), (⟨"MeetingOrders$OrderText", "readOrder", "()Z"⟩, 8), (⟨"MeetingOrders$OrderText", "byteHere", "()I"⟩, 8), (⟨"MeetingOrders$OrderText", "readDigit", "(ILMeetingOrders$Row;)Z"⟩, 8), (⟨"MeetingOrders$OrderText", "isDigitHere", "()Z"⟩, 8), (⟨"MeetingOrders$OrderText", "readNumber", "(ILMeetingOrders$Row;)Z"⟩, 8), (⟨"MeetingOrders$OrderText", "readSign", "(I)Z"⟩, 8), (⟨"MeetingOrders", "save", "()V"⟩, 6), (⟨"MeetingOrders", "carryOutOne", "(IIII)Z"⟩, 6), (⟨"MeetingOrders", "mayChange", "(II)Z"⟩, 6), (⟨"MeetingOrders", "settleIfOpen", "(II)Z"⟩, 6), (⟨"java/lang/Throwable", "fillInStackTrace", "(I)Ljava/lang/Throwable;"⟩, 6), (⟨"MeetingOrders", "digestOfOrder", "(JI)J"⟩, 6), (⟨"MeetingOrders", "digestOfMeeting", "(JI)J"⟩, 6)]
theorem lw_r1 : ∀ q ∈ lw_privs_1, lw_okq q := List.forall_mem_cons.mpr ⟨lw_p0, List.forall_mem_cons.mpr ⟨lw_p1, List.forall_mem_cons.mpr ⟨lw_p2, List.forall_mem_cons.mpr ⟨lw_p3, List.forall_mem_cons.mpr ⟨lw_p4, List.forall_mem_cons.mpr ⟨lw_p5, List.forall_mem_cons.mpr ⟨lw_p6, List.forall_mem_cons.mpr ⟨lw_p7, List.forall_mem_cons.mpr ⟨lw_p8, List.forall_mem_cons.mpr ⟨lw_p9, List.forall_mem_cons.mpr ⟨lw_p10, List.forall_mem_cons.mpr ⟨lw_p11, List.forall_mem_cons.mpr ⟨lw_p12, List.forall_mem_cons.mpr ⟨lw_p13, List.forall_mem_cons.mpr ⟨lw_p14, List.forall_mem_cons.mpr ⟨lw_p15, fun _ h => absurd h List.not_mem_nil⟩⟩⟩⟩⟩⟩⟩⟩⟩⟩⟩⟩⟩⟩⟩⟩
theorem lw_p16 : lw_okq (⟨"MeetingOrders", "reasonAgainst", "(IIIII)I"⟩, 6) := ⟨⟨by decide +kernel, by decide +kernel⟩, List.mem_of_getElem? (i := 16) (by decide +kernel), List.mem_of_getElem? (i := 662) (by decide +kernel), List.mem_of_getElem? (i := 663) (by decide +kernel)⟩
theorem lw_p17 : lw_okq (⟨"MeetingOrdersModel", "areVenues", "(I)Z"⟩, 15) := ⟨⟨by decide +kernel, by decide +kernel⟩, List.mem_of_getElem? (i := 804) (by decide +kernel), List.mem_of_getElem? (i := 868) (by decide +kernel), List.mem_of_getElem? (i := 869) (by decide +kernel)⟩
theorem lw_p18 : lw_okq (⟨"MeetingOrdersModel", "goes", "(ZZZ)Z"⟩, 15) := ⟨⟨by decide +kernel, by decide +kernel⟩, List.mem_of_getElem? (i := 804) (by decide +kernel), List.mem_of_getElem? (i := 872) (by decide +kernel), List.mem_of_getElem? (i := 873) (by decide +kernel)⟩
theorem lw_p19 : lw_okq (⟨"MeetingOrdersModel", "save", "()V"⟩, 15) := ⟨⟨by decide +kernel, by decide +kernel⟩, List.mem_of_getElem? (i := 804) (by decide +kernel), List.mem_of_getElem? (i := 876) (by decide +kernel), List.mem_of_getElem? (i := 877) (by decide +kernel)⟩
theorem lw_p20 : lw_okq (⟨"MeetingOrdersModel", "isOrder", "(I)Z"⟩, 15) := ⟨⟨by decide +kernel, by decide +kernel⟩, List.mem_of_getElem? (i := 804) (by decide +kernel), List.mem_of_getElem? (i := 884) (by decide +kernel), List.mem_of_getElem? (i := 885) (by decide +kernel)⟩
theorem lw_p21 : lw_okq (⟨"MeetingOrdersModel", "mayChange", "(II)Z"⟩, 15) := ⟨⟨by decide +kernel, by decide +kernel⟩, List.mem_of_getElem? (i := 804) (by decide +kernel), List.mem_of_getElem? (i := 888) (by decide +kernel), List.mem_of_getElem? (i := 889) (by decide +kernel)⟩
theorem lw_p22 : lw_okq (⟨"MeetingOrdersModel", "changes", "(III)V"⟩, 15) := ⟨⟨by decide +kernel, by decide +kernel⟩, List.mem_of_getElem? (i := 804) (by decide +kernel), List.mem_of_getElem? (i := 893) (by decide +kernel), List.mem_of_getElem? (i := 894) (by decide +kernel)⟩
theorem lw_p23 : lw_okq (⟨"MeetingOrdersModel", "exchange", "(II)I"⟩, 15) := ⟨⟨by decide +kernel, by decide +kernel⟩, List.mem_of_getElem? (i := 804) (by decide +kernel), List.mem_of_getElem? (i := 901) (by decide +kernel), List.mem_of_getElem? (i := 902) (by decide +kernel)⟩
theorem lw_p24 : lw_okq (⟨"MeetingOrdersModel", "isEscort", "(I)Z"⟩, 15) := ⟨⟨by decide +kernel, by decide +kernel⟩, List.mem_of_getElem? (i := 804) (by decide +kernel), List.mem_of_getElem? (i := 915) (by decide +kernel), List.mem_of_getElem? (i := 916) (by decide +kernel)⟩
theorem lw_p25 : lw_okq (⟨"MeetingOrdersModel", "areThere", "(III)Z"⟩, 15) := ⟨⟨by decide +kernel, by decide +kernel⟩, List.mem_of_getElem? (i := 804) (by decide +kernel), List.mem_of_getElem? (i := 928) (by decide +kernel), List.mem_of_getElem? (i := 929) (by decide +kernel)⟩
theorem lw_p26 : lw_okq (⟨"MeetingOrdersModel", "isVenue", "(I)Z"⟩, 15) := ⟨⟨by decide +kernel, by decide +kernel⟩, List.mem_of_getElem? (i := 804) (by decide +kernel), List.mem_of_getElem? (i := 932) (by decide +kernel), List.mem_of_getElem? (i := 933) (by decide +kernel)⟩
theorem lw_p27 : lw_okq (⟨"MeetingOrdersModel", "reason", "(IIIII)I"⟩, 15) := ⟨⟨by decide +kernel, by decide +kernel⟩, List.mem_of_getElem? (i := 804) (by decide +kernel), List.mem_of_getElem? (i := 943) (by decide +kernel), List.mem_of_getElem? (i := 944) (by decide +kernel)⟩
theorem lw_p28 : lw_okq (⟨"MeetingOrdersModel", "look", "(I)V"⟩, 15) := ⟨⟨by decide +kernel, by decide +kernel⟩, List.mem_of_getElem? (i := 804) (by decide +kernel), List.mem_of_getElem? (i := 950) (by decide +kernel), List.mem_of_getElem? (i := 951) (by decide +kernel)⟩
theorem lw_p29 : lw_okq (⟨"MeetingOrdersModel", "stands", "(II)Z"⟩, 15) := ⟨⟨by decide +kernel, by decide +kernel⟩, List.mem_of_getElem? (i := 804) (by decide +kernel), List.mem_of_getElem? (i := 954) (by decide +kernel), List.mem_of_getElem? (i := 955) (by decide +kernel)⟩
theorem lw_p30 : lw_okq (⟨"MeetingOrdersModel", "of", "(II)I"⟩, 15) := ⟨⟨by decide +kernel, by decide +kernel⟩, List.mem_of_getElem? (i := 804) (by decide +kernel), List.mem_of_getElem? (i := 958) (by decide +kernel), List.mem_of_getElem? (i := 959) (by decide +kernel)⟩
theorem lw_p31 : lw_okq (⟨"MeetingOrdersModel", "whyEscort", "(II)I"⟩, 15) := ⟨⟨by decide +kernel, by decide +kernel⟩, List.mem_of_getElem? (i := 804) (by decide +kernel), List.mem_of_getElem? (i := 962) (by decide +kernel), List.mem_of_getElem? (i := 963) (by decide +kernel)⟩
def lw_privs_2 : List (MethodName × Nat) := [(⟨"MeetingOrders", "reasonAgainst", "(IIIII)I"⟩, 6), (⟨"MeetingOrdersModel", "areVenues", "(I)Z"⟩, 15), (⟨"MeetingOrdersModel", "goes", "(ZZZ)Z"⟩, 15), (⟨"MeetingOrdersModel", "save", "()V"⟩, 15), (⟨"MeetingOrdersModel", "isOrder", "(I)Z"⟩, 15), (⟨"MeetingOrdersModel", "mayChange", "(II)Z"⟩, 15), (⟨"MeetingOrdersModel", "changes", "(III)V"⟩, 15), (⟨"MeetingOrdersModel", "exchange", "(II)I"⟩, 15), (⟨"MeetingOrdersModel", "isEscort", "(I)Z"⟩, 15), (⟨"MeetingOrdersModel", "areThere", "(III)Z"⟩, 15), (⟨"MeetingOrdersModel", "isVenue", "(I)Z"⟩, 15), (⟨"MeetingOrdersModel", "reason", "(IIIII)I"⟩, 15), (⟨"MeetingOrdersModel", "look", "(I)V"⟩, 15), (⟨"MeetingOrdersModel", "stands", "(II)Z"⟩, 15), (⟨"MeetingOrdersModel", "of", "(II)I"⟩, 15), (⟨"MeetingOrdersModel", "whyEscort", "(II)I"⟩, 15)]
theorem lw_r2 : ∀ q ∈ lw_privs_2, lw_okq q := List.forall_mem_cons.mpr ⟨lw_p16, List.forall_mem_cons.mpr ⟨lw_p17, List.forall_mem_cons.mpr ⟨lw_p18, List.forall_mem_cons.mpr ⟨lw_p19, List.forall_mem_cons.mpr ⟨lw_p20, List.forall_mem_cons.mpr ⟨lw_p21, List.forall_mem_cons.mpr ⟨lw_p22, List.forall_mem_cons.mpr ⟨lw_p23, List.forall_mem_cons.mpr ⟨lw_p24, List.forall_mem_cons.mpr ⟨lw_p25, List.forall_mem_cons.mpr ⟨lw_p26, List.forall_mem_cons.mpr ⟨lw_p27, List.forall_mem_cons.mpr ⟨lw_p28, List.forall_mem_cons.mpr ⟨lw_p29, List.forall_mem_cons.mpr ⟨lw_p30, List.forall_mem_cons.mpr ⟨lw_p31, fun _ h => absurd h List.not_mem_nil⟩⟩⟩⟩⟩⟩⟩⟩⟩⟩⟩⟩⟩⟩⟩⟩
theorem lw_p32 : lw_okq (⟨"MeetingOrdersModel", "lays", "(IIIII)V"⟩, 15) := ⟨⟨by decide +kernel, by decide +kernel⟩, List.mem_of_getElem? (i := 804) (by decide +kernel), List.mem_of_getElem? (i := 966) (by decide +kernel), List.mem_of_getElem? (i := 967) (by decide +kernel)⟩
theorem lw_p33 : lw_okq (⟨"MeetingOrdersModel", "plans", "(I)I"⟩, 15) := ⟨⟨by decide +kernel, by decide +kernel⟩, List.mem_of_getElem? (i := 804) (by decide +kernel), List.mem_of_getElem? (i := 974) (by decide +kernel), List.mem_of_getElem? (i := 975) (by decide +kernel)⟩
theorem lw_p34 : lw_okq (⟨"MeetingOrdersModel", "plansOne", "(I)Z"⟩, 15) := ⟨⟨by decide +kernel, by decide +kernel⟩, List.mem_of_getElem? (i := 804) (by decide +kernel), List.mem_of_getElem? (i := 978) (by decide +kernel), List.mem_of_getElem? (i := 979) (by decide +kernel)⟩
theorem lw_p35 : lw_okq (⟨"MeetingOrdersModel", "owes", "(II)I"⟩, 15) := ⟨⟨by decide +kernel, by decide +kernel⟩, List.mem_of_getElem? (i := 804) (by decide +kernel), List.mem_of_getElem? (i := 982) (by decide +kernel), List.mem_of_getElem? (i := 983) (by decide +kernel)⟩
theorem lw_p36 : lw_okq (⟨"MeetingOrdersModel", "slotFor", "(II)I"⟩, 15) := ⟨⟨by decide +kernel, by decide +kernel⟩, List.mem_of_getElem? (i := 804) (by decide +kernel), List.mem_of_getElem? (i := 986) (by decide +kernel), List.mem_of_getElem? (i := 987) (by decide +kernel)⟩
theorem lw_p37 : lw_okq (⟨"MeetingOrdersModel", "venueFor", "(II)I"⟩, 15) := ⟨⟨by decide +kernel, by decide +kernel⟩, List.mem_of_getElem? (i := 804) (by decide +kernel), List.mem_of_getElem? (i := 990) (by decide +kernel), List.mem_of_getElem? (i := 991) (by decide +kernel)⟩
theorem lw_p38 : lw_okq (⟨"MeetingOrdersModel", "escortFor", "(I)I"⟩, 15) := ⟨⟨by decide +kernel, by decide +kernel⟩, List.mem_of_getElem? (i := 804) (by decide +kernel), List.mem_of_getElem? (i := 994) (by decide +kernel), List.mem_of_getElem? (i := 995) (by decide +kernel)⟩
theorem lw_p39 : lw_okq (⟨"MeetingOrdersModel", "placeOf", "(I)I"⟩, 15) := ⟨⟨by decide +kernel, by decide +kernel⟩, List.mem_of_getElem? (i := 804) (by decide +kernel), List.mem_of_getElem? (i := 1002) (by decide +kernel), List.mem_of_getElem? (i := 1003) (by decide +kernel)⟩
theorem lw_p40 : lw_okq (⟨"MeetingOrdersModel", "takeOut", "(I)V"⟩, 15) := ⟨⟨by decide +kernel, by decide +kernel⟩, List.mem_of_getElem? (i := 804) (by decide +kernel), List.mem_of_getElem? (i := 1006) (by decide +kernel), List.mem_of_getElem? (i := 1007) (by decide +kernel)⟩
theorem lw_p41 : lw_okq (⟨"MeetingOrdersModel", "mayTell", "(I)Z"⟩, 15) := ⟨⟨by decide +kernel, by decide +kernel⟩, List.mem_of_getElem? (i := 804) (by decide +kernel), List.mem_of_getElem? (i := 1014) (by decide +kernel), List.mem_of_getElem? (i := 1015) (by decide +kernel)⟩
theorem lw_p42 : lw_okq (⟨"MeetingOrdersModel", "tells", "(IZ)V"⟩, 15) := ⟨⟨by decide +kernel, by decide +kernel⟩, List.mem_of_getElem? (i := 804) (by decide +kernel), List.mem_of_getElem? (i := 1018) (by decide +kernel), List.mem_of_getElem? (i := 1019) (by decide +kernel)⟩
theorem lw_p43 : lw_okq (⟨"MeetingOrdersModel", "holds", "(I)V"⟩, 15) := ⟨⟨by decide +kernel, by decide +kernel⟩, List.mem_of_getElem? (i := 804) (by decide +kernel), List.mem_of_getElem? (i := 1022) (by decide +kernel), List.mem_of_getElem? (i := 1023) (by decide +kernel)⟩
theorem lw_p44 : lw_okq (⟨"MeetingOrdersModel", "misses", "(I)V"⟩, 15) := ⟨⟨by decide +kernel, by decide +kernel⟩, List.mem_of_getElem? (i := 804) (by decide +kernel), List.mem_of_getElem? (i := 1026) (by decide +kernel), List.mem_of_getElem? (i := 1027) (by decide +kernel)⟩
theorem lw_p45 : lw_okq (⟨"MeetingOrdersModel", "ends", "()I"⟩, 15) := ⟨⟨by decide +kernel, by decide +kernel⟩, List.mem_of_getElem? (i := 804) (by decide +kernel), List.mem_of_getElem? (i := 1034) (by decide +kernel), List.mem_of_getElem? (i := 1035) (by decide +kernel)⟩
theorem lw_p46 : lw_okq (⟨"MeetingOrdersModel", "orderValue", "(II)I"⟩, 15) := ⟨⟨by decide +kernel, by decide +kernel⟩, List.mem_of_getElem? (i := 804) (by decide +kernel), List.mem_of_getElem? (i := 1043) (by decide +kernel), List.mem_of_getElem? (i := 1044) (by decide +kernel)⟩
theorem lw_p47 : lw_okq (⟨"MeetingOrdersModel", "plannedOf", "(I)I"⟩, 15) := ⟨⟨by decide +kernel, by decide +kernel⟩, List.mem_of_getElem? (i := 804) (by decide +kernel), List.mem_of_getElem? (i := 1047) (by decide +kernel), List.mem_of_getElem? (i := 1048) (by decide +kernel)⟩
def lw_privs_3 : List (MethodName × Nat) := [(⟨"MeetingOrdersModel", "lays", "(IIIII)V"⟩, 15), (⟨"MeetingOrdersModel", "plans", "(I)I"⟩, 15), (⟨"MeetingOrdersModel", "plansOne", "(I)Z"⟩, 15), (⟨"MeetingOrdersModel", "owes", "(II)I"⟩, 15), (⟨"MeetingOrdersModel", "slotFor", "(II)I"⟩, 15), (⟨"MeetingOrdersModel", "venueFor", "(II)I"⟩, 15), (⟨"MeetingOrdersModel", "escortFor", "(I)I"⟩, 15), (⟨"MeetingOrdersModel", "placeOf", "(I)I"⟩, 15), (⟨"MeetingOrdersModel", "takeOut", "(I)V"⟩, 15), (⟨"MeetingOrdersModel", "mayTell", "(I)Z"⟩, 15), (⟨"MeetingOrdersModel", "tells", "(IZ)V"⟩, 15), (⟨"MeetingOrdersModel", "holds", "(I)V"⟩, 15), (⟨"MeetingOrdersModel", "misses", "(I)V"⟩, 15), (⟨"MeetingOrdersModel", "ends", "()I"⟩, 15), (⟨"MeetingOrdersModel", "orderValue", "(II)I"⟩, 15), (⟨"MeetingOrdersModel", "plannedOf", "(I)I"⟩, 15)]
theorem lw_r3 : ∀ q ∈ lw_privs_3, lw_okq q := List.forall_mem_cons.mpr ⟨lw_p32, List.forall_mem_cons.mpr ⟨lw_p33, List.forall_mem_cons.mpr ⟨lw_p34, List.forall_mem_cons.mpr ⟨lw_p35, List.forall_mem_cons.mpr ⟨lw_p36, List.forall_mem_cons.mpr ⟨lw_p37, List.forall_mem_cons.mpr ⟨lw_p38, List.forall_mem_cons.mpr ⟨lw_p39, List.forall_mem_cons.mpr ⟨lw_p40, List.forall_mem_cons.mpr ⟨lw_p41, List.forall_mem_cons.mpr ⟨lw_p42, List.forall_mem_cons.mpr ⟨lw_p43, List.forall_mem_cons.mpr ⟨lw_p44, List.forall_mem_cons.mpr ⟨lw_p45, List.forall_mem_cons.mpr ⟨lw_p46, List.forall_mem_cons.mpr ⟨lw_p47, fun _ h => absurd h List.not_mem_nil⟩⟩⟩⟩⟩⟩⟩⟩⟩⟩⟩⟩⟩⟩⟩⟩
theorem lw_p48 : lw_okq (⟨"MeetingOrdersModel", "hoursOf", "(I)I"⟩, 15) := ⟨⟨by decide +kernel, by decide +kernel⟩, List.mem_of_getElem? (i := 804) (by decide +kernel), List.mem_of_getElem? (i := 1051) (by decide +kernel), List.mem_of_getElem? (i := 1052) (by decide +kernel)⟩
theorem lw_p49 : lw_okq (⟨"MeetingOrdersModel", "escortValue", "(II)I"⟩, 15) := ⟨⟨by decide +kernel, by decide +kernel⟩, List.mem_of_getElem? (i := 804) (by decide +kernel), List.mem_of_getElem? (i := 1073) (by decide +kernel), List.mem_of_getElem? (i := 1074) (by decide +kernel)⟩
theorem lw_p50 : lw_okq (⟨"MeetingOrdersModel", "manyNow", "(I)I"⟩, 15) := ⟨⟨by decide +kernel, by decide +kernel⟩, List.mem_of_getElem? (i := 804) (by decide +kernel), List.mem_of_getElem? (i := 1077) (by decide +kernel), List.mem_of_getElem? (i := 1078) (by decide +kernel)⟩
theorem lw_p51 : lw_okq (⟨"MeetingOrdersModel", "numberOf", "(I)I"⟩, 15) := ⟨⟨by decide +kernel, by decide +kernel⟩, List.mem_of_getElem? (i := 804) (by decide +kernel), List.mem_of_getElem? (i := 1090) (by decide +kernel), List.mem_of_getElem? (i := 1091) (by decide +kernel)⟩
theorem lw_p52 : lw_okq (⟨"MeetingOrdersModel", "owedByAll", "(I)I"⟩, 15) := ⟨⟨by decide +kernel, by decide +kernel⟩, List.mem_of_getElem? (i := 804) (by decide +kernel), List.mem_of_getElem? (i := 1094) (by decide +kernel), List.mem_of_getElem? (i := 1095) (by decide +kernel)⟩
theorem lw_p53 : lw_okq (⟨"MeetingOrdersModel", "layAside", "()V"⟩, 15) := ⟨⟨by decide +kernel, by decide +kernel⟩, List.mem_of_getElem? (i := 804) (by decide +kernel), List.mem_of_getElem? (i := 1110) (by decide +kernel), List.mem_of_getElem? (i := 1111) (by decide +kernel)⟩
theorem lw_p54 : lw_okq (⟨"MeetingOrdersModel", "takeBack", "()V"⟩, 15) := ⟨⟨by decide +kernel, by decide +kernel⟩, List.mem_of_getElem? (i := 804) (by decide +kernel), List.mem_of_getElem? (i := 1114) (by decide +kernel), List.mem_of_getElem? (i := 1115) (by decide +kernel)⟩
theorem lw_p55 : lw_okq (⟨"MeetingOrdersModel", "settled", "()I"⟩, 15) := ⟨⟨by decide +kernel, by decide +kernel⟩, List.mem_of_getElem? (i := 804) (by decide +kernel), List.mem_of_getElem? (i := 1122) (by decide +kernel), List.mem_of_getElem? (i := 1123) (by decide +kernel)⟩
theorem lw_p56 : lw_okq (⟨"MeetingOrdersModel", "holdsAll", "()V"⟩, 15) := ⟨⟨by decide +kernel, by decide +kernel⟩, List.mem_of_getElem? (i := 804) (by decide +kernel), List.mem_of_getElem? (i := 1126) (by decide +kernel), List.mem_of_getElem? (i := 1127) (by decide +kernel)⟩
theorem lw_p57 : lw_okq (⟨"MeetingOrdersModel", "takesOrder", "()Z"⟩, 15) := ⟨⟨by decide +kernel, by decide +kernel⟩, List.mem_of_getElem? (i := 804) (by decide +kernel), List.mem_of_getElem? (i := 1151) (by decide +kernel), List.mem_of_getElem? (i := 1152) (by decide +kernel)⟩
theorem lw_p58 : lw_okq (⟨"MeetingOrdersModel", "here", "()I"⟩, 15) := ⟨⟨by decide +kernel, by decide +kernel⟩, List.mem_of_getElem? (i := 804) (by decide +kernel), List.mem_of_getElem? (i := 1155) (by decide +kernel), List.mem_of_getElem? (i := 1156) (by decide +kernel)⟩
theorem lw_p59 : lw_okq (⟨"MeetingOrdersModel", "takesParts", "()Z"⟩, 15) := ⟨⟨by decide +kernel, by decide +kernel⟩, List.mem_of_getElem? (i := 804) (by decide +kernel), List.mem_of_getElem? (i := 1159) (by decide +kernel), List.mem_of_getElem? (i := 1160) (by decide +kernel)⟩
theorem lw_p60 : lw_okq (⟨"MeetingOrdersModel", "takesDigit", "(I)Z"⟩, 15) := ⟨⟨by decide +kernel, by decide +kernel⟩, List.mem_of_getElem? (i := 804) (by decide +kernel), List.mem_of_getElem? (i := 1163) (by decide +kernel), List.mem_of_getElem? (i := 1164) (by decide +kernel)⟩
theorem lw_p61 : lw_okq (⟨"MeetingOrdersModel", "takesNumber", "(II)Z"⟩, 15) := ⟨⟨by decide +kernel, by decide +kernel⟩, List.mem_of_getElem? (i := 804) (by decide +kernel), List.mem_of_getElem? (i := 1169) (by decide +kernel), List.mem_of_getElem? (i := 1170) (by decide +kernel)⟩
theorem lw_p62 : lw_okq (⟨"MeetingOrdersModel", "takesByte", "(I)Z"⟩, 15) := ⟨⟨by decide +kernel, by decide +kernel⟩, List.mem_of_getElem? (i := 804) (by decide +kernel), List.mem_of_getElem? (i := 1174) (by decide +kernel), List.mem_of_getElem? (i := 1175) (by decide +kernel)⟩
theorem lw_p63 : lw_okq (⟨"MeetingOrdersModel", "does", "()Z"⟩, 15) := ⟨⟨by decide +kernel, by decide +kernel⟩, List.mem_of_getElem? (i := 804) (by decide +kernel), List.mem_of_getElem? (i := 1178) (by decide +kernel), List.mem_of_getElem? (i := 1179) (by decide +kernel)⟩
def lw_privs_4 : List (MethodName × Nat) := [(⟨"MeetingOrdersModel", "hoursOf", "(I)I"⟩, 15), (⟨"MeetingOrdersModel", "escortValue", "(II)I"⟩, 15), (⟨"MeetingOrdersModel", "manyNow", "(I)I"⟩, 15), (⟨"MeetingOrdersModel", "numberOf", "(I)I"⟩, 15), (⟨"MeetingOrdersModel", "owedByAll", "(I)I"⟩, 15), (⟨"MeetingOrdersModel", "layAside", "()V"⟩, 15), (⟨"MeetingOrdersModel", "takeBack", "()V"⟩, 15), (⟨"MeetingOrdersModel", "settled", "()I"⟩, 15), (⟨"MeetingOrdersModel", "holdsAll", "()V"⟩, 15), (⟨"MeetingOrdersModel", "takesOrder", "()Z"⟩, 15), (⟨"MeetingOrdersModel", "here", "()I"⟩, 15), (⟨"MeetingOrdersModel", "takesParts", "()Z"⟩, 15), (⟨"MeetingOrdersModel", "takesDigit", "(I)Z"⟩, 15), (⟨"MeetingOrdersModel", "takesNumber", "(II)Z"⟩, 15), (⟨"MeetingOrdersModel", "takesByte", "(I)Z"⟩, 15), (⟨"MeetingOrdersModel", "does", "()Z"⟩, 15)]
theorem lw_r4 : ∀ q ∈ lw_privs_4, lw_okq q := List.forall_mem_cons.mpr ⟨lw_p48, List.forall_mem_cons.mpr ⟨lw_p49, List.forall_mem_cons.mpr ⟨lw_p50, List.forall_mem_cons.mpr ⟨lw_p51, List.forall_mem_cons.mpr ⟨lw_p52, List.forall_mem_cons.mpr ⟨lw_p53, List.forall_mem_cons.mpr ⟨lw_p54, List.forall_mem_cons.mpr ⟨lw_p55, List.forall_mem_cons.mpr ⟨lw_p56, List.forall_mem_cons.mpr ⟨lw_p57, List.forall_mem_cons.mpr ⟨lw_p58, List.forall_mem_cons.mpr ⟨lw_p59, List.forall_mem_cons.mpr ⟨lw_p60, List.forall_mem_cons.mpr ⟨lw_p61, List.forall_mem_cons.mpr ⟨lw_p62, List.forall_mem_cons.mpr ⟨lw_p63, fun _ h => absurd h List.not_mem_nil⟩⟩⟩⟩⟩⟩⟩⟩⟩⟩⟩⟩⟩⟩⟩⟩
theorem lw_p64 : lw_okq (⟨"MeetingOrdersModel", "changesOrder", "()Z"⟩, 15) := ⟨⟨by decide +kernel, by decide +kernel⟩, List.mem_of_getElem? (i := 804) (by decide +kernel), List.mem_of_getElem? (i := 1182) (by decide +kernel), List.mem_of_getElem? (i := 1183) (by decide +kernel)⟩
theorem lw_p65 : lw_okq (⟨"MeetingOrdersModel", "adds", "(I)V"⟩, 15) := ⟨⟨by decide +kernel, by decide +kernel⟩, List.mem_of_getElem? (i := 804) (by decide +kernel), List.mem_of_getElem? (i := 1195) (by decide +kernel), List.mem_of_getElem? (i := 1196) (by decide +kernel)⟩
theorem lw_p66 : lw_okq (⟨"MeetingOrdersModel", "addsOrder", "(I)V"⟩, 15) := ⟨⟨by decide +kernel, by decide +kernel⟩, List.mem_of_getElem? (i := 804) (by decide +kernel), List.mem_of_getElem? (i := 1200) (by decide +kernel), List.mem_of_getElem? (i := 1201) (by decide +kernel)⟩
def lw_privs_5 : List (MethodName × Nat) := [(⟨"MeetingOrdersModel", "changesOrder", "()Z"⟩, 15), (⟨"MeetingOrdersModel", "adds", "(I)V"⟩, 15), (⟨"MeetingOrdersModel", "addsOrder", "(I)V"⟩, 15)]
theorem lw_r5 : ∀ q ∈ lw_privs_5, lw_okq q := List.forall_mem_cons.mpr ⟨lw_p64, List.forall_mem_cons.mpr ⟨lw_p65, List.forall_mem_cons.mpr ⟨lw_p66, fun _ h => absurd h List.not_mem_nil⟩⟩⟩
def lw_privs : List (MethodName × Nat) := lw_privs_1 ++ (lw_privs_2 ++ (lw_privs_3 ++ (lw_privs_4 ++ (lw_privs_5))))
def lw_tbl : List Cond := k2_sels lw_privs ++ tables_1
theorem lw_privs_ok : ∀ q ∈ lw_privs, lw_okq q := by
  show ∀ q ∈ lw_privs_1 ++ (lw_privs_2 ++ (lw_privs_3 ++ (lw_privs_4 ++ (lw_privs_5)))), lw_okq q
  exact List.forall_mem_append.mpr ⟨lw_r1, List.forall_mem_append.mpr ⟨lw_r2, List.forall_mem_append.mpr ⟨lw_r3, List.forall_mem_append.mpr ⟨lw_r4, lw_r5⟩⟩⟩⟩
/-- the streams that the claim lets the run draw from -/
abbrev lw_cs : List Choice := [Jvm.Choice.named "NaN.bits"]
theorem lw_bits : nanBits ∈ lw_cs := by first | decide | exact List.mem_cons_self | simp [lw_cs, nanBits]
-- ===== end of PART A; then your names; then what follows =====
/-! ===== BEGIN words of one list among another's, by their places ===== -/
theorem goodIn_r {big : List Cond} (ws : List Cond) (ps : List Nat) (hp : ws = ps.filterMap (fun i => big[i]?)) (h : ws.all goodWord = true) : GoodIn big ws := by
  intro w hw
  have h1 := List.all_eq_true.mp h w hw
  rw [hp] at hw
  obtain ⟨i, -, hi⟩ := List.mem_filterMap.mp hw
  have hm : w ∈ big := by first | exact List.mem_of_getElem? hi | exact List.getElem?_mem hi
  exact ⟨hm, good_of_word h1⟩
theorem goodIn_app {big a b : List Cond} (ha : GoodIn big a) (hb : GoodIn big b) : GoodIn big (a ++ b) := fun w h => (List.mem_append.mp h).elim (ha w) (hb w)
theorem goodIn_ca {big a b : List Cond} {c : Cond} (ha : GoodIn big (c :: a)) (hb : GoodIn big b) : GoodIn big (c :: (a ++ b)) := fun w h => (List.mem_cons.mp h).elim (fun e => ha w (List.mem_cons.mpr (Or.inl e))) (fun h => (List.mem_append.mp h).elim (fun h => ha w (List.mem_cons.mpr (Or.inr h))) (hb w))
theorem goodIn_sub {big ws : List Cond} (hm : ∀ w ∈ ws, w ∈ big) (h : ws.all goodWord = true) : GoodIn big ws := fun w hw => ⟨hm w hw, good_of_word (List.all_eq_true.mp h w hw)⟩
/-! ===== END ===== -/

/-! ===== BEGIN exceptions that leave a method, and their catching by the caller (launches without stack traces) ===== -/
section VXA
/-! The laws vx_back, vx_callV, vx_callS, vx_callSW, vx_throw0, vx_throwS follow proofs of the library, with one case more: JvmDerived/Free/Laws.lean (Back.of_free), Shelf42/LK1.lean (callV, callS), Shelf/KitTraced.lean (throwNew0V, throwNewS). -/
/-- where a method has thrown q: the class by its name, the cell, what was written, the world -/
def vx_T (XC : String → State → State → Prop) (st : State) (q : Addr) (t : State) (mc ms : Nat) (free : Addr → Prop) : Prop :=
  ∃ (E : String) (ce : Cell) (L : List Loc), XC E st t ∧ t.heap[q]? = some ce ∧ ce.vm = .none ∧ st.vm.findClass E = some ce.cls ∧ st.WarmedH t.vm ∧ st.sameButNew ({ t with vm := st.vm } : State) L mc ms ∧ ∀ z ∈ L, free z.base
def vx_Q (Qc : Array Value → State → Outcome → State → Prop) (XC : String → State → State → Prop) (mc ms : Nat) (free : Addr → Prop) : Array Value → State → Outcome → State → Prop := fun a st o t =>
  (Qc a st o t ∧ ∃ L, FrameEnd st o t L mc ms ∧ ∀ q ∈ L, free q.base) ∨ ∃ q, o = .threw q ∧ vx_T XC st q t mc ms free
/-- a callee that returns or throws -/
def vx_Met (l : Launch) (y : MethodName) (ws : List Cond) (rm : Room) (Pc : Array Value → State → Prop) (Qc : Array Value → State → Outcome → State → Prop) (XC : String → State → State → Prop) (mc ms : Nat) (free : Addr → Prop) : Prop :=
  MetFree l y (headSpec ws rm) Pc (fun _ _ _ _ _ => True) (vx_Q Qc XC mc ms free)
def vx_Post (XC : String → State → State → Prop) (mc ms : Nat) (free : Addr → Prop) : Pt → Array Value → Addr → Pt → Prop := fun A a q B =>
  ∃ (g : JFrame) (mk : MethodId) (t : State) (L : List Loc) (E : String) (ce : Cell), B.U.heap = t.heap ∧ B.U.vm = t.vm ∧ XC E (A.U.calling g mk a) t ∧ t.heap[q]? = some ce ∧ ce.vm = .none ∧ A.U.vm.findClass E = some ce.cls ∧ B.locs = A.locs ++ L ∧ (∀ z ∈ L, free z.base) ∧ B.cells = A.cells + mc ∧ B.slots = A.slots + ms
def vx_Back (l : Launch) (R : Room) (p : Program) (e : Env) (below : List Frame) (s : State) (sargs : Array Value) (y : MethodName) (len W9 : Nat)
    (Pre : Pt → Array Value → Prop) (Post : Pt → Array Value → Option Value → Pt → Prop) (PostX : Pt → Array Value → Addr → Pt → Prop) : Prop :=
  ∀ (m : MethodId) (meth : Method) (c : Code) (A : Pt) (g : JFrame) (ig : Instr) (mk : MethodId) (a : Array Value),
    Stand p l e R s m sargs below meth c A.U A.locs A.cells A.slots → g.method = m → g.locals.size = c.maxLocals → decode c.code g.pc = .ok (ig, len) →
    2 * g.monitorRoom + (g.stack.map fun v => v.category).sum ≤ W9 → A.U.methodNamed? y = some mk → Pre A a →
    (∃ (v : Option Value) (B : Pt), Stand p l e R s m sargs below meth c B.U B.locs B.cells B.slots ∧ Post A a v B ∧
      Steps p.tables e below (doInvoke e (A.U.setTop g) [] mk a).1 (B.U.setTop { g with pc := g.pc + len, stack := v.toList ++ g.stack })) ∨
    (∃ (q : Addr) (B : Pt), Stand p l e R s m sargs below meth c B.U B.locs B.cells B.slots ∧ PostX A a q B ∧
      Steps p.tables e below (doInvoke e (A.U.setTop g) [] mk a).1 ((B.U.setTop g).pushFrame (.throwing q)))
section Payer
variable {l : Launch} {R : Room} {p : Program} {e : Env} {below : List Frame} {s : State} {sargs : Array Value} {y : MethodName} {len W9 : Nat}
theorem vx_back {ws : List Cond} {rm : Room} {Pc : Array Value → State → Prop} {Qc : Array Value → State → Outcome → State → Prop} {XC : String → State → State → Prop} {mc ms : Nat} {free : Addr → Prop} {bytes : ByteArray} {maxL : Nat} {ret : Option FieldType}
    (hM : vx_Met l y ws rm Pc Qc XC mc ms free) (hblind : FrameBlind Pc) (hrc : rm.cells = mc) (hrs : rm.slots = ms)
    (hframes : rm.frames + 1 ≤ R.frames) (hlocals : W9 + (maxL + 11) + rm.locals ≤ R.locals)
    (hws : ∀ w ∈ ws, ∀ a' U, s.WarmedH U.vm → w.before a' U = true) (hcode : Cond.code y bytes maxL ret ∈ ws) (hinit : ∀ a' U, s.WarmedH U.vm → (Cond.initialized y.cls).before a' U = true) :
    vx_Back l R p e below s sargs y len W9 (PreOf R mc ms Pc) (PostOf Qc mc ms free) (vx_Post XC mc ms free) := by
  intro m meth c A g ig mk a X hg hsize hdg hW hn hp
  have h1 : (headSpec ws rm).pre.before a A.U = true := atoms_intro fun w hw => hws w hw _ _ X.warmed
  have h2 : (Cond.code y bytes maxL ret).before a A.U = true := hws _ hcode _ _ X.warmed
  have h3 : (Cond.initialized y.cls).before a A.U = true := hinit _ _ X.warmed
  have h4 : A.cells + (headSpec ws rm).room.cells ≤ R.cells := by rw [show (headSpec ws rm).room.cells = mc from hrc]; exact hp.1
  have h5 : A.slots + (headSpec ws rm).room.slots ≤ R.slots := by rw [show (headSpec ws rm).room.slots = ms from hrs]; exact hp.2.1
  have hPc : Pc a (A.U.calling g mk a) := hblind _ _ _ _ hp.2.2
  obtain ⟨U, Ls, c0, s0⟩ := A
  dsimp only [Pt.U, Pt.locs, Pt.cells, Pt.slots] at h1 h2 h3 h4 h5 X hn hPc ⊢
  obtain ⟨methY, cY, hmY, hcY, -, hlY, -, -, -, -⟩ := Cond.code_spec hn h2
  obtain ⟨kY, hkY, -⟩ := className_of_methodNamed hn
  have hinitY : kY.init = .initialized := Cond.initialized_spec (findClass_of_methodNamed hn) hkY h3
  have h : At U g.method c below := by rw [hg]; exact X.here
  have hlocals9 : W9 + (maxL + 11) + (headSpec ws rm).room.locals ≤ R.locals := hlocals
  have happ : (headSpec ws rm).appliesLoose y e.platform (U.calling g mk a) = true :=
    Spec.appliesLoose_calling (g := g) h hdg hn hkY hinitY
      (X.room_calling (g := g) (R' := (headSpec ws rm).room) hsize hmY hcY hframes (by rw [hlY]; omega) h4 h5) h1
  obtain ⟨mid, hmid⟩ := h.above
  have hfr : (U.setTop g).frames = (.java g :: mid) ++ below := by rw [State.frames_setTop' g h.top, hmid]; rfl
  obtain ⟨o, s₂, hsteps, -, hend, hq⟩ := Steps.callFree hM p X.admits X.cas X.clock (acts := []) hfr happ hPc trivial
  have hq' : vx_Q Qc XC mc ms free a (U.calling g mk a) o s₂ := hq
  rw [State.frames_setTop' g h.top] at hend
  obtain ⟨g₀, hg0⟩ := Option.isSome_iff_exists.mp h.top
  obtain ⟨r, hr⟩ := State.topJava?_eq_some.mp hg0
  have hr' : (({ U with heap := s₂.heap, slotsUsed := s₂.slotsUsed } : State).setVm s₂.vm).frames = .java g₀ :: r := hr
  rcases hq' with ⟨hqc, L, hfe, hL⟩ | ⟨q, rfl, E, ce, L, hx, hce, hcv, hcl, hW₂, hsm, hL⟩
  · obtain ⟨⟨v, rfl⟩, hW₂, e2, q2, q3, q4, q5, q6⟩ := id hfe
    have e3 : s₂ = ({ (U.calling g mk a).setFrames s₂.frames with heap := s₂.heap, slotsUsed := s₂.slotsUsed } : State).setVm s₂.vm := by
      have : s₂ = ({ s₂ with vm := (U.calling g mk a).vm } : State).setVm s₂.vm := rfl
      rw [e2] at this
      exact this
    obtain ⟨c₂, i₂, len₂, hc₂, hd₂, hf₂⟩ := hend
    have hW' : U.WarmedH s₂.vm := hW₂
    have hcc : c₂ = c := by
      have h1 : s₂.code? g.method = U.code? g.method := by
        rw [State.code?_eq, State.code?_eq, hW'.alike.method?]
      exact Option.some.inj (hc₂.symm.trans (h1.trans h.code))
    subst hcc
    have hlen : len₂ = len := by rw [hdg] at hd₂; cases hd₂; rfl
    subst hlen
    have hs₂ : s₂ = (({ U with heap := s₂.heap, slotsUsed := s₂.slotsUsed } : State).setVm s₂.vm).setTop { g with pc := g.pc + len₂, stack := v.toList ++ g.stack } := by
      refine e3.trans ?_
      rw [hf₂, State.calling_eq h.top, State.setFrames_setFrames, State.setTop_of_frames _ hr', hr]
      rfl
    have hsame : U.sameButNew ({ U with heap := s₂.heap, slotsUsed := s₂.slotsUsed } : State) L mc ms := by
      refine ⟨?_, q2, q3, q4, q5, q6⟩
      obtain ⟨t, ht, -⟩ := State.frames_cons hr
      show ({ U with heap := s₂.heap, slotsUsed := s₂.slotsUsed } : State) = { U.setFrames U.frames with heap := s₂.heap, slotsUsed := s₂.slotsUsed }
      rw [State.setFrames_self ht]
    subst hg
    refine Or.inl ⟨v, ⟨(({ U with heap := s₂.heap, slotsUsed := s₂.slotsUsed } : State).setVm s₂.vm), Ls ++ L, c0 + mc, s0 + ms⟩,
      ⟨X.admits, X.cas, X.clock, X.frames, X.room, X.hears, X.method, X.code, (X.here.setHeapUsed s₂.heap s₂.slotsUsed).setVm hW'.alike, X.tail, State.WarmedH.trans X.warmed hW', X.limits, X.bytes, X.same.trans (hsame.setVm s.vm)⟩,
      ⟨g, mk, s₂, L, rfl, rfl, hqc, rfl, hL, rfl, rfl⟩, ?_⟩
    show Steps p.tables e below _ ((({ U with heap := s₂.heap, slotsUsed := s₂.slotsUsed } : State).setVm s₂.vm).setTop { g with pc := g.pc + len₂, stack := v.toList ++ g.stack })
    rw [← hs₂]
    exact hsteps
  · obtain ⟨e2, q2, q3, q4, q5, q6⟩ := id hsm
    have e3 : s₂ = ({ (U.calling g mk a).setFrames s₂.frames with heap := s₂.heap, slotsUsed := s₂.slotsUsed } : State).setVm s₂.vm := by
      have : s₂ = ({ s₂ with vm := (U.calling g mk a).vm } : State).setVm s₂.vm := rfl
      rw [e2] at this
      exact this
    have hf₂ : s₂.frames = .throwing q :: .java g :: U.frames.tail := hend
    have hW' : U.WarmedH s₂.vm := hW₂
    have hs₂ : s₂ = ((({ U with heap := s₂.heap, slotsUsed := s₂.slotsUsed } : State).setVm s₂.vm).setTop g).pushFrame (.throwing q) := by
      refine e3.trans ?_
      rw [hf₂, State.calling_eq h.top, State.setFrames_setFrames, State.pushFrame, State.frames_setTop _ hr', State.setTop_of_frames _ hr', State.setFrames_setFrames, hr]
      rfl
    have hsame : U.sameButNew ({ U with heap := s₂.heap, slotsUsed := s₂.slotsUsed } : State) L mc ms := by
      refine ⟨?_, q2, q3, q4, q5, q6⟩
      obtain ⟨t, ht, -⟩ := State.frames_cons hr
      show ({ U with heap := s₂.heap, slotsUsed := s₂.slotsUsed } : State) = { U.setFrames U.frames with heap := s₂.heap, slotsUsed := s₂.slotsUsed }
      rw [State.setFrames_self ht]
    subst hg
    refine Or.inr ⟨q, ⟨(({ U with heap := s₂.heap, slotsUsed := s₂.slotsUsed } : State).setVm s₂.vm), Ls ++ L, c0 + mc, s0 + ms⟩,
      ⟨X.admits, X.cas, X.clock, X.frames, X.room, X.hears, X.method, X.code, (X.here.setHeapUsed s₂.heap s₂.slotsUsed).setVm hW'.alike, X.tail, State.WarmedH.trans X.warmed hW', X.limits, X.bytes, X.same.trans (hsame.setVm s.vm)⟩,
      ⟨g, mk, s₂, L, E, ce, rfl, rfl, hx, hce, hcv, hcl, rfl, hL, rfl, rfl⟩, ?_⟩
    show Steps p.tables e below _ (((({ U with heap := s₂.heap, slotsUsed := s₂.slotsUsed } : State).setVm s₂.vm).setTop g).pushFrame (.throwing q))
    rw [← hs₂]
    exact hsteps
end Payer
section Calls
variable {p : Program} {l : Launch} {e : Env} {R : Room} {s : State} {m : MethodId} {args : Array Value} {below : List Frame} {meth : Method} {c : Code} {T : State} {locs : List Loc} {cells slots : Nat}
theorem vx_callV (X : Stand p l e R s m args below meth c T locs cells slots) (hexec : p.tables.exec = Jvm.exec) {own C : String} {index : Nat} {y : MethodName} {bytes : ByteArray} {maxL : Nat} {ret : Option FieldType}
    (hown : s.vm.findClass own = some m.cls) (hlink : (Cond.methodLink own index y).before args s = true) (hinst : (Cond.instanceMethod y).before args s = true) (hsel : (Cond.selects C y y).before args s = true)
    (hcode : (Cond.code y bytes maxL ret).before args s = true) (hy : y.cls ≠ "java/lang/invoke/MethodHandle" ∧ y.cls ≠ "java/lang/invoke/VarHandle")
    {W9 : Nat} {Pre : Pt → Array Value → Prop} {Post : Pt → Array Value → Option Value → Pt → Prop} {PostX : Pt → Array Value → Addr → Pt → Prop} (hK : vx_Back l R p e below s args y 3 W9 Pre Post PostX)
    {b : Addr} {cellB : Cell} (hcell : T.heap[b]? = some cellB) (hobj : cellB.vm.isStatics = false) (hcls : s.vm.findClass C = some cellB.cls)
    {g : JFrame} (hg : g.method = m) (hsize : g.locals.size = c.maxLocals) {argsL rest : List Value} (hlen : ∀ sig, parseMethodDescriptor y.desc = some sig → argsL.length = sig.parameters.length)
    (hstack : g.stack = argsL.reverse ++ .ref b :: rest) (hW : 2 * g.monitorRoom + (rest.map fun v => v.category).sum ≤ W9) (hdg : decode c.code g.pc = .ok (.invokevirtual index, 3))
    (hpre : ∀ vm₁, s.WarmedH vm₁ → Pre ⟨T.setVm vm₁, locs, cells, slots⟩ (Value.ref b :: argsL).toArray) :
    (∃ (v : Option Value) (vm₁ : Vm) (B : Pt), s.WarmedH vm₁ ∧ Stand p l e R s m args below meth c B.U B.locs B.cells B.slots ∧ Post ⟨T.setVm vm₁, locs, cells, slots⟩ (Value.ref b :: argsL).toArray v B ∧
      ∀ target, Steps p.tables e below (B.U.setTop { g with pc := g.pc + 3, stack := v.toList ++ rest }) target → Steps p.tables e below (T.setTop g) target) ∨
    (∃ (q : Addr) (vm₁ : Vm) (B : Pt), s.WarmedH vm₁ ∧ Stand p l e R s m args below meth c B.U B.locs B.cells B.slots ∧ PostX ⟨T.setVm vm₁, locs, cells, slots⟩ (Value.ref b :: argsL).toArray q B ∧
      Steps p.tables e below (T.setTop g) ((B.U.setTop { g with stack := rest }).pushFrame (.throwing q))) := by
  obtain ⟨mk, methM, hnamed, hmethM, hstM, habM⟩ := Cond.instanceMethod_spec hinst
  obtain ⟨methM', cM, hmethM', -, -, -, -, -, -, hsigM⟩ := Cond.code_spec hnamed hcode
  cases hmethM.symm.trans hmethM'
  obtain ⟨c2, r2, m2, q1, q2, q3, q4, kP, hkP, hkPi⟩ := Cond.selects_spec hsel
  cases hcls.symm.trans q1
  cases (State.methodFound?_of_named hnamed hy).symm.trans q2
  cases hnamed.symm.trans q3
  have hselP : selectMethod e.platform s.vm cellB.cls mk = .method mk := by rw [Launch.admits_selectMethod X.admits]; exact q4
  obtain ⟨vm₁, X₁, hstep₁⟩ := X.invokevirtual hexec hown hlink hnamed hmethM hstM hkP hkPi hy (a := b) (cell := cellB) hcell
    (fun z h => by rw [h] at hobj; cases hobj) hselP hmethM habM hkP hkPi (g := g) hg (argsL := argsL) (rest := rest) (hlen _ hsigM) hstack hdg
  rcases hK m meth c ⟨T.setVm vm₁, locs, cells, slots⟩ { g with stack := rest } (.invokevirtual index) mk (Value.ref b :: argsL).toArray X₁ hg hsize hdg hW (X₁.named hnamed) (hpre vm₁ X₁.warmed) with ⟨v, B, X', hpost, hsteps⟩ | ⟨q, B, X', hpost, hsteps⟩
  · exact Or.inl ⟨v, vm₁, B, X₁.warmed, X', hpost, fun target h => hstep₁ _ fun acts => by rw [doInvoke_state]; exact hsteps.trans h⟩
  · exact Or.inr ⟨q, vm₁, B, X₁.warmed, X', hpost, hstep₁ _ fun acts => by rw [doInvoke_state]; exact hsteps⟩
theorem vx_callS (X : Stand p l e R s m args below meth c T locs cells slots) (hexec : p.tables.exec = Jvm.exec) {own : String} {index : Nat} {y : MethodName} {bytes : ByteArray} {maxL : Nat} {ret : Option FieldType}
    (hown : s.vm.findClass own = some m.cls) (hlink : (Cond.methodLink own index y).before args s = true) (hstat : (Cond.static y).before args s = true) (hinit : (Cond.initialized y.cls).before args s = true)
    (hcode : (Cond.code y bytes maxL ret).before args s = true) (hy : y.cls ≠ "java/lang/invoke/MethodHandle" ∧ y.cls ≠ "java/lang/invoke/VarHandle")
    {W9 : Nat} {Pre : Pt → Array Value → Prop} {Post : Pt → Array Value → Option Value → Pt → Prop} {PostX : Pt → Array Value → Addr → Pt → Prop} (hK : vx_Back l R p e below s args y 3 W9 Pre Post PostX)
    {g : JFrame} (hg : g.method = m) (hsize : g.locals.size = c.maxLocals) {argsL rest : List Value} (hlen : ∀ sig, parseMethodDescriptor y.desc = some sig → argsL.length = sig.parameters.length)
    (hstack : g.stack = argsL.reverse ++ rest) (hW : 2 * g.monitorRoom + (rest.map fun v => v.category).sum ≤ W9) (hdg : decode c.code g.pc = .ok (.invokestatic index, 3))
    (hpre : ∀ vm₁, s.WarmedH vm₁ → Pre ⟨T.setVm vm₁, locs, cells, slots⟩ argsL.toArray) :
    (∃ (v : Option Value) (vm₁ : Vm) (B : Pt), s.WarmedH vm₁ ∧ Stand p l e R s m args below meth c B.U B.locs B.cells B.slots ∧ Post ⟨T.setVm vm₁, locs, cells, slots⟩ argsL.toArray v B ∧
      ∀ target, Steps p.tables e below (B.U.setTop { g with pc := g.pc + 3, stack := v.toList ++ rest }) target → Steps p.tables e below (T.setTop g) target) ∨
    (∃ (q : Addr) (vm₁ : Vm) (B : Pt), s.WarmedH vm₁ ∧ Stand p l e R s m args below meth c B.U B.locs B.cells B.slots ∧ PostX ⟨T.setVm vm₁, locs, cells, slots⟩ argsL.toArray q B ∧
      Steps p.tables e below (T.setTop g) ((B.U.setTop { g with stack := rest }).pushFrame (.throwing q))) := by
  obtain ⟨mk, hnamed⟩ := Cond.code_named hcode
  obtain ⟨methM, cM, hmethM, -, -, -, -, -, -, hsigM⟩ := Cond.code_spec hnamed hcode
  have hstatic : methM.isStatic = true := Cond.static_spec hnamed hmethM hstat
  obtain ⟨kP, hkP, -⟩ := className_of_methodNamed hnamed
  have hinitP : kP.init = .initialized := Cond.initialized_spec (findClass_of_methodNamed hnamed) hkP hinit
  obtain ⟨vm₁, X₁, hstep₁⟩ := X.invokestatic hexec hown hlink hnamed hmethM hstatic hkP hinitP hy (g := g) hg (argsL := argsL) (rest := rest) (hlen _ hsigM) hstack hdg
  rcases hK m meth c ⟨T.setVm vm₁, locs, cells, slots⟩ { g with stack := rest } (.invokestatic index) mk argsL.toArray X₁ hg hsize hdg hW (X₁.named hnamed) (hpre vm₁ X₁.warmed) with ⟨v, B, X', hpost, hsteps⟩ | ⟨q, B, X', hpost, hsteps⟩
  · exact Or.inl ⟨v, vm₁, B, X₁.warmed, X', hpost, fun target h => hstep₁ _ fun acts => by rw [doInvoke_state]; exact hsteps.trans h⟩
  · exact Or.inr ⟨q, vm₁, B, X₁.warmed, X', hpost, hstep₁ _ fun acts => by rw [doInvoke_state]; exact hsteps⟩
end Calls
theorem vx_cls {s : State} {T : State} {vm₁ : Vm} {E : String} {k : ClassId} (hW : s.WarmedH vm₁) (h : (T.setVm vm₁).vm.findClass E = some k) : s.vm.findClass E = some k := by
  have h1 : vm₁.findClass E = some k := h
  rw [hW.alike.findClass] at h1
  exact h1
/-- the method's frame g, with q thrown over it -/
def vx_W (p : Program) (l : Launch) (e : Env) (R : Room) (s : State) (m : MethodId) (args : Array Value) (below : List Frame) (meth : Method) (c : Code) (H : Heap) (locs : List Loc) (cells slots : Nat) (Q : State → Prop) (g : JFrame) (q : Addr) : Prop :=
  ∀ T : State, T.heap = H → Stand p l e R s m args below meth c T locs cells slots → ∃ t, Steps p.tables e below ((T.setTop g).pushFrame (.throwing q)) t ∧ Q t
def vx_Run (p : Program) (l : Launch) (e : Env) (R : Room) (s : State) (m : MethodId) (args : Array Value) (below : List Frame) (meth : Method) (c : Code) (H : Heap) (locs : List Loc) (cells slots mc ms : Nat) (g : JFrame) (rest : List Value) (Qa : State → Outcome → State → Prop) (XC : String → State → State → Prop) (free : Addr → Prop) : Prop :=
  ∀ T : State, T.heap = H → Stand p l e R s m args below meth c T locs cells slots →
    (∃ (v : Option Value) (st₀ t T' : State) (L : List Loc), st₀.heap = H ∧ Stand p l e R s m args below meth c T' (locs ++ L) (cells + mc) (slots + ms) ∧ (∀ q ∈ L, free q.base) ∧ T'.heap = t.heap ∧ T'.vm = t.vm ∧ Qa st₀ (.returned v) t ∧
      Goes p e below T g T' { g with pc := g.pc + 3, stack := v.toList ++ rest }) ∨
    (∃ (q : Addr) (st₀ t T' : State) (L : List Loc) (E : String) (ce : Cell), st₀.heap = H ∧ Stand p l e R s m args below meth c T' (locs ++ L) (cells + mc) (slots + ms) ∧ (∀ z ∈ L, free z.base) ∧ T'.heap = t.heap ∧ T'.vm = t.vm ∧ XC E st₀ t ∧ t.heap[q]? = some ce ∧ ce.vm = .none ∧ s.vm.findClass E = some ce.cls ∧
      Steps p.tables e below (T.setTop g) ((T'.setTop { g with stack := rest }).pushFrame (.throwing q)))
def vx_X {S : Type} (px : S → Prop) (B : String → S → State → Prop) (A : Nat → Prop) : String → State → State → Prop := fun E st t => ∃ u : S, px u ∧ B E u t ∧ va_F A st t
section Runs
variable {p : Program} {l : Launch} {e : Env} {R : Room} {s : State} {m : MethodId} {args : Array Value} {below : List Frame} {meth : Method} {c : Code} {H : Heap} {locs : List Loc} {cells slots : Nat}
variable {y : MethodName} {bytes cc : ByteArray} {maxL nL mc ms n index : Nat} {ret : Option FieldType} {ws : List Cond} {rm : Room} {Pc : Array Value → State → Prop} {Qc : Array Value → State → Outcome → State → Prop} {XC : String → State → State → Prop} {free : Addr → Prop} {Ts : List Cond} {own C : String} {b : Addr} {As rest : List Value} {g : JFrame}
theorem vx_callBack (cb : CallB R s args own index y bytes maxL ret ws rm mc ms n) (hM : vx_Met l y ws rm Pc Qc XC mc ms free) (hbl : FrameBlind Pc) : vx_Back l R p e below s args y 3 8 (PreOf R mc ms Pc) (PostOf Qc mc ms free) (vx_Post XC mc ms free) := by
  obtain ⟨hrc, hrs, hfr, hlo, hws, hcw, -, hini, -⟩ := cb
  exact vx_back (bytes := bytes) (maxL := maxL) (ret := ret) hM hbl hrc hrs hfr hlo hws hcw (fun a' U hW => word_at hW (Or.inl (by first | rfl | simp [Cond.onTables, Cond.keeps, Cond.steady])) hini)
theorem vx_runV (S : CallFix p m c cc nL s args Ts own) (hM : vx_Met l y ws rm Pc Qc XC mc ms free) (cw : CallW R s args own C index y bytes maxL ret ws rm mc ms n) (hp : PreV s H C b Pc As)
    (hg : g.method = m) (hn : As.length = n) (hsize : g.locals.size = nL) (hstack : g.stack = As.reverse ++ .ref b :: rest) (hW : 2 * g.monitorRoom + (rest.map fun v => v.category).sum ≤ 8) (hdg : decode cc g.pc = .ok (.invokevirtual index, 3)) (hf : cells + mc ≤ R.cells ∧ slots + ms ≤ R.slots) :
    vx_Run p l e R s m args below meth c H locs cells slots mc ms g rest (Qc (Value.ref b :: As).toArray) XC free := by
  have hK : vx_Back l R p e below s args y 3 8 (PreOf R mc ms Pc) (PostOf Qc mc ms free) (vx_Post XC mc ms free) := vx_callBack cw.1 hM hp.1
  obtain ⟨⟨-, -, -, -, -, -, hcode, -, hy, hlen, hl⟩, hin, hse⟩ := cw
  obtain ⟨hx, hb, hml, ho, -⟩ := S
  obtain ⟨-, ⟨cellB, hcB, hoB, hclB⟩, hPc⟩ := hp
  intro T hT X
  rcases vx_callV X hx (C := C) (bytes := bytes) (maxL := maxL) (ret := ret) ho hl hin hse hcode hy hK (by rw [hT]; exact hcB) hoB hclB hg (hsize.trans hml.symm) (argsL := As) (rest := rest) (fun sig h => hn.trans (hlen sig h)) hstack hW (by rw [hb]; exact hdg)
    (fun vm₁ hW₁ => ⟨hf.1, hf.2, hPc (T.setVm vm₁) hT hW₁⟩) with ⟨v, vm₁, ⟨U', l2, c2, s2⟩, hW₁, X', ⟨g', mk, t, L, e1, e2, hq, h1, hL, h2, h3⟩, st⟩ | ⟨q, vm₁, ⟨U', l2, c2, s2⟩, hW₁, X', ⟨g', mk, t, L, E, ce, e1, e2, hq, hce, hcv, hcl, h1, hL, h2, h3⟩, st⟩
  · dsimp only [Pt.U, Pt.locs, Pt.cells, Pt.slots] at X' e1 e2 h1 h2 h3 st
    subst h1; subst h2; subst h3
    exact Or.inl ⟨v, (T.setVm vm₁).calling g' mk (Value.ref b :: As).toArray, t, U', L, hT, X', hL, e1, e2, hq, st⟩
  · dsimp only [Pt.U, Pt.locs, Pt.cells, Pt.slots] at X' e1 e2 h1 h2 h3 st hcl
    subst h1; subst h2; subst h3
    exact Or.inr ⟨q, (T.setVm vm₁).calling g' mk (Value.ref b :: As).toArray, t, U', L, E, ce, hT, X', hL, e1, e2, hq, hce, hcv, vx_cls hW₁ hcl, st⟩
theorem vx_runS (S : CallFix p m c cc nL s args Ts own) (hM : vx_Met l y ws rm Pc Qc XC mc ms free) (cw : CallB R s args own index y bytes maxL ret ws rm mc ms n ∧ (Cond.static y).before args s = true) (hp : PreS s H Pc As)
    (hg : g.method = m) (hn : As.length = n) (hsize : g.locals.size = nL) (hstack : g.stack = As.reverse ++ rest) (hW : 2 * g.monitorRoom + (rest.map fun v => v.category).sum ≤ 8) (hdg : decode cc g.pc = .ok (.invokestatic index, 3)) (hf : cells + mc ≤ R.cells ∧ slots + ms ≤ R.slots) :
    vx_Run p l e R s m args below meth c H locs cells slots mc ms g rest (Qc As.toArray) XC free := by
  have hK : vx_Back l R p e below s args y 3 8 (PreOf R mc ms Pc) (PostOf Qc mc ms free) (vx_Post XC mc ms free) := vx_callBack cw.1 hM hp.1
  obtain ⟨⟨-, -, -, -, -, -, hcode, hini, hy, hlen, hl⟩, hstt⟩ := cw
  obtain ⟨hx, hb, hml, ho, -⟩ := S
  intro T hT X
  rcases vx_callS X hx (bytes := bytes) (maxL := maxL) (ret := ret) ho hl hstt hini hcode hy hK hg (hsize.trans hml.symm) (argsL := As) (rest := rest) (fun sig h => hn.trans (hlen sig h)) hstack hW (by rw [hb]; exact hdg)
    (fun vm₁ hW₁ => ⟨hf.1, hf.2, hp.2 (T.setVm vm₁) hT hW₁⟩) with ⟨v, vm₁, ⟨U', l2, c2, s2⟩, hW₁, X', ⟨g', mk, t, L, e1, e2, hq, h1, hL, h2, h3⟩, st⟩ | ⟨q, vm₁, ⟨U', l2, c2, s2⟩, hW₁, X', ⟨g', mk, t, L, E, ce, e1, e2, hq, hce, hcv, hcl, h1, hL, h2, h3⟩, st⟩
  · dsimp only [Pt.U, Pt.locs, Pt.cells, Pt.slots] at X' e1 e2 h1 h2 h3 st
    subst h1; subst h2; subst h3
    exact Or.inl ⟨v, (T.setVm vm₁).calling g' mk As.toArray, t, U', L, hT, X', hL, e1, e2, hq, st⟩
  · dsimp only [Pt.U, Pt.locs, Pt.cells, Pt.slots] at X' e1 e2 h1 h2 h3 st hcl
    subst h1; subst h2; subst h3
    exact Or.inr ⟨q, (T.setVm vm₁).calling g' mk As.toArray, t, U', L, E, ce, hT, X', hL, e1, e2, hq, hce, hcv, vx_cls hW₁ hcl, st⟩
end Runs
section Rows
variable {p : Program} {l : Launch} {e : Env} {R : Room} {s : State} {m : MethodId} {args : Array Value} {below : List Frame} {meth : Method} {c : Code} {H : Heap} {locs : List Loc} {cells slots : Nat} {Q : State → Prop}
variable {mc ms : Nat} {free : Addr → Prop} {A0 A1 : Nat → Prop} {H0 : Heap} {a : Array Value} {pc : Nat} {ls : Array Slot} {st0 rest : List Value}
theorem vx_keep {st₀ t T' : State} {L : List Loc} (h0 : st₀.heap = H) (e1 : T'.heap = t.heap) (hS : va_S A0 H0 H locs) (hA : ∀ q, q < H.size → A1 q → A0 q) (hf : ∀ q, free q → A0 q) (hL : ∀ q ∈ L, free q.base) (hF : va_F A1 st₀ t) :
    H.size ≤ T'.heap.size ∧ (∀ q : Nat, q < H.size → ¬ A1 q → T'.heap[q]? = H[q]?) ∧ va_S A0 H0 T'.heap (locs ++ L) := by
  obtain ⟨hz, hk⟩ := hF
  rw [h0] at hz hk
  exact ⟨by rw [e1]; exact hz, fun q h1 h2 => by rw [e1]; exact hk q h1 h2,
    ⟨Nat.le_trans hS.1 (by rw [e1]; exact hz), fun q h1 h2 => by rw [e1, hk q (Nat.lt_of_lt_of_le h1 hS.1) (fun z => h2 (hA q (Nat.lt_of_lt_of_le h1 hS.1) z))]; exact hS.2.1 q h1 h2, fun q hq => by
      rcases List.mem_append.mp hq with h | h
      · exact hS.2.2 q h
      · exact hf _ (hL q h)⟩⟩
theorem vx_calli {S SX : Type} {post : Int32 → S → Prop} {px : SX → Prop} {B : S → State → Prop} {BX : String → SX → State → Prop} {AX : Nat → Prop} (hr : vx_Run p l e R s m args below meth c H locs cells slots mc ms (F0 m pc ls st0) rest (va_Qi post B A1 a) (vx_X px BX AX) free) (hS : va_S A0 H0 H locs) (hA : ∀ q, q < H.size → A1 q → A0 q) (hf : ∀ q, free q → A0 q) (hAX : ∀ q, q < H.size → AX q → A0 q)
    (kx : ∀ (E : String) (ce : Cell) (q9 : Addr) (u : SX) (t : State) (H1 : Heap) (locs1 : List Loc), t.heap = H1 → s.vm.Alike t.vm → px u → BX E u t → H.size ≤ H1.size → (∀ q : Nat, q < H.size → ¬ AX q → H1[q]? = H[q]?) → va_S A0 H0 H1 locs1 → H1[q9]? = some ce → ce.vm = .none → s.vm.findClass E = some ce.cls → vx_W p l e R s m args below meth c H1 locs1 (cells + mc) (slots + ms) Q (F0 m pc ls rest) q9)
    (kk : ∀ (r : Int32) (u : S) (t : State) (H1 : Heap) (locs1 : List Loc), t.heap = H1 → s.vm.Alike t.vm → post r u → B u t → H.size ≤ H1.size → (∀ q : Nat, q < H.size → ¬ A1 q → H1[q]? = H[q]?) → va_S A0 H0 H1 locs1 → W p l e R s m args below meth c H1 locs1 (cells + mc) (slots + ms) Q (F0 m (pc + 3) ls (.int r :: rest))) : W p l e R s m args below meth c H locs cells slots Q (F0 m pc ls st0) := by
  intro T hT X
  rcases hr T hT X with ⟨v, st₀, t, T', L, h0, X', hL, e1, e2, ⟨⟨r, u, hv, hp, hb⟩, hF⟩, st⟩ | ⟨q, st₀, t, T', L, E, ce, h0, X', hL, e1, e2, ⟨u, hp, hb, hF⟩, hce, hcv, hcl, st⟩
  · cases hv
    obtain ⟨k1, k2, k3⟩ := vx_keep h0 e1 hS hA hf hL hF
    obtain ⟨t2, a1, b1⟩ := kk r u t T'.heap (locs ++ L) e1.symm (by rw [← e2]; exact X'.warmed.alike) hp hb k1 k2 k3 T' rfl X'
    exact ⟨t2, st t2 a1, b1⟩
  · obtain ⟨k1, k2, k3⟩ := vx_keep h0 e1 hS hAX hf hL hF
    obtain ⟨t2, a1, b1⟩ := kx E ce q u t T'.heap (locs ++ L) e1.symm (by rw [← e2]; exact X'.warmed.alike) hp hb k1 k2 k3 (by rw [e1]; exact hce) hcv hcl T' rfl X'
    exact ⟨t2, st.trans a1, b1⟩
theorem vx_calll {S SX : Type} {post : Int64 → S → Prop} {px : SX → Prop} {B : S → State → Prop} {BX : String → SX → State → Prop} {AX : Nat → Prop} (hr : vx_Run p l e R s m args below meth c H locs cells slots mc ms (F0 m pc ls st0) rest (va_Ql post B A1 a) (vx_X px BX AX) free) (hS : va_S A0 H0 H locs) (hA : ∀ q, q < H.size → A1 q → A0 q) (hf : ∀ q, free q → A0 q) (hAX : ∀ q, q < H.size → AX q → A0 q)
    (kx : ∀ (E : String) (ce : Cell) (q9 : Addr) (u : SX) (t : State) (H1 : Heap) (locs1 : List Loc), t.heap = H1 → s.vm.Alike t.vm → px u → BX E u t → H.size ≤ H1.size → (∀ q : Nat, q < H.size → ¬ AX q → H1[q]? = H[q]?) → va_S A0 H0 H1 locs1 → H1[q9]? = some ce → ce.vm = .none → s.vm.findClass E = some ce.cls → vx_W p l e R s m args below meth c H1 locs1 (cells + mc) (slots + ms) Q (F0 m pc ls rest) q9)
    (kk : ∀ (r : Int64) (u : S) (t : State) (H1 : Heap) (locs1 : List Loc), t.heap = H1 → s.vm.Alike t.vm → post r u → B u t → H.size ≤ H1.size → (∀ q : Nat, q < H.size → ¬ A1 q → H1[q]? = H[q]?) → va_S A0 H0 H1 locs1 → W p l e R s m args below meth c H1 locs1 (cells + mc) (slots + ms) Q (F0 m (pc + 3) ls (.long r :: rest))) : W p l e R s m args below meth c H locs cells slots Q (F0 m pc ls st0) := by
  intro T hT X
  rcases hr T hT X with ⟨v, st₀, t, T', L, h0, X', hL, e1, e2, ⟨⟨r, u, hv, hp, hb⟩, hF⟩, st⟩ | ⟨q, st₀, t, T', L, E, ce, h0, X', hL, e1, e2, ⟨u, hp, hb, hF⟩, hce, hcv, hcl, st⟩
  · cases hv
    obtain ⟨k1, k2, k3⟩ := vx_keep h0 e1 hS hA hf hL hF
    obtain ⟨t2, a1, b1⟩ := kk r u t T'.heap (locs ++ L) e1.symm (by rw [← e2]; exact X'.warmed.alike) hp hb k1 k2 k3 T' rfl X'
    exact ⟨t2, st t2 a1, b1⟩
  · obtain ⟨k1, k2, k3⟩ := vx_keep h0 e1 hS hAX hf hL hF
    obtain ⟨t2, a1, b1⟩ := kx E ce q u t T'.heap (locs ++ L) e1.symm (by rw [← e2]; exact X'.warmed.alike) hp hb k1 k2 k3 (by rw [e1]; exact hce) hcv hcl T' rfl X'
    exact ⟨t2, st.trans a1, b1⟩
theorem vx_callf {S SX : Type} {post : UInt32 → S → Prop} {px : SX → Prop} {B : S → State → Prop} {BX : String → SX → State → Prop} {AX : Nat → Prop} (hr : vx_Run p l e R s m args below meth c H locs cells slots mc ms (F0 m pc ls st0) rest (va_Qf post B A1 a) (vx_X px BX AX) free) (hS : va_S A0 H0 H locs) (hA : ∀ q, q < H.size → A1 q → A0 q) (hf : ∀ q, free q → A0 q) (hAX : ∀ q, q < H.size → AX q → A0 q)
    (kx : ∀ (E : String) (ce : Cell) (q9 : Addr) (u : SX) (t : State) (H1 : Heap) (locs1 : List Loc), t.heap = H1 → s.vm.Alike t.vm → px u → BX E u t → H.size ≤ H1.size → (∀ q : Nat, q < H.size → ¬ AX q → H1[q]? = H[q]?) → va_S A0 H0 H1 locs1 → H1[q9]? = some ce → ce.vm = .none → s.vm.findClass E = some ce.cls → vx_W p l e R s m args below meth c H1 locs1 (cells + mc) (slots + ms) Q (F0 m pc ls rest) q9)
    (kk : ∀ (r : UInt32) (u : S) (t : State) (H1 : Heap) (locs1 : List Loc), t.heap = H1 → s.vm.Alike t.vm → post r u → B u t → H.size ≤ H1.size → (∀ q : Nat, q < H.size → ¬ A1 q → H1[q]? = H[q]?) → va_S A0 H0 H1 locs1 → W p l e R s m args below meth c H1 locs1 (cells + mc) (slots + ms) Q (F0 m (pc + 3) ls (.float r :: rest))) : W p l e R s m args below meth c H locs cells slots Q (F0 m pc ls st0) := by
  intro T hT X
  rcases hr T hT X with ⟨v, st₀, t, T', L, h0, X', hL, e1, e2, ⟨⟨r, u, hv, hp, hb⟩, hF⟩, st⟩ | ⟨q, st₀, t, T', L, E, ce, h0, X', hL, e1, e2, ⟨u, hp, hb, hF⟩, hce, hcv, hcl, st⟩
  · cases hv
    obtain ⟨k1, k2, k3⟩ := vx_keep h0 e1 hS hA hf hL hF
    obtain ⟨t2, a1, b1⟩ := kk r u t T'.heap (locs ++ L) e1.symm (by rw [← e2]; exact X'.warmed.alike) hp hb k1 k2 k3 T' rfl X'
    exact ⟨t2, st t2 a1, b1⟩
  · obtain ⟨k1, k2, k3⟩ := vx_keep h0 e1 hS hAX hf hL hF
    obtain ⟨t2, a1, b1⟩ := kx E ce q u t T'.heap (locs ++ L) e1.symm (by rw [← e2]; exact X'.warmed.alike) hp hb k1 k2 k3 (by rw [e1]; exact hce) hcv hcl T' rfl X'
    exact ⟨t2, st.trans a1, b1⟩
theorem vx_calld {S SX : Type} {post : UInt64 → S → Prop} {px : SX → Prop} {B : S → State → Prop} {BX : String → SX → State → Prop} {AX : Nat → Prop} (hr : vx_Run p l e R s m args below meth c H locs cells slots mc ms (F0 m pc ls st0) rest (va_Qd post B A1 a) (vx_X px BX AX) free) (hS : va_S A0 H0 H locs) (hA : ∀ q, q < H.size → A1 q → A0 q) (hf : ∀ q, free q → A0 q) (hAX : ∀ q, q < H.size → AX q → A0 q)
    (kx : ∀ (E : String) (ce : Cell) (q9 : Addr) (u : SX) (t : State) (H1 : Heap) (locs1 : List Loc), t.heap = H1 → s.vm.Alike t.vm → px u → BX E u t → H.size ≤ H1.size → (∀ q : Nat, q < H.size → ¬ AX q → H1[q]? = H[q]?) → va_S A0 H0 H1 locs1 → H1[q9]? = some ce → ce.vm = .none → s.vm.findClass E = some ce.cls → vx_W p l e R s m args below meth c H1 locs1 (cells + mc) (slots + ms) Q (F0 m pc ls rest) q9)
    (kk : ∀ (r : UInt64) (u : S) (t : State) (H1 : Heap) (locs1 : List Loc), t.heap = H1 → s.vm.Alike t.vm → post r u → B u t → H.size ≤ H1.size → (∀ q : Nat, q < H.size → ¬ A1 q → H1[q]? = H[q]?) → va_S A0 H0 H1 locs1 → W p l e R s m args below meth c H1 locs1 (cells + mc) (slots + ms) Q (F0 m (pc + 3) ls (.double r :: rest))) : W p l e R s m args below meth c H locs cells slots Q (F0 m pc ls st0) := by
  intro T hT X
  rcases hr T hT X with ⟨v, st₀, t, T', L, h0, X', hL, e1, e2, ⟨⟨r, u, hv, hp, hb⟩, hF⟩, st⟩ | ⟨q, st₀, t, T', L, E, ce, h0, X', hL, e1, e2, ⟨u, hp, hb, hF⟩, hce, hcv, hcl, st⟩
  · cases hv
    obtain ⟨k1, k2, k3⟩ := vx_keep h0 e1 hS hA hf hL hF
    obtain ⟨t2, a1, b1⟩ := kk r u t T'.heap (locs ++ L) e1.symm (by rw [← e2]; exact X'.warmed.alike) hp hb k1 k2 k3 T' rfl X'
    exact ⟨t2, st t2 a1, b1⟩
  · obtain ⟨k1, k2, k3⟩ := vx_keep h0 e1 hS hAX hf hL hF
    obtain ⟨t2, a1, b1⟩ := kx E ce q u t T'.heap (locs ++ L) e1.symm (by rw [← e2]; exact X'.warmed.alike) hp hb k1 k2 k3 (by rw [e1]; exact hce) hcv hcl T' rfl X'
    exact ⟨t2, st.trans a1, b1⟩
theorem vx_callv {S SX : Type} {post : S → Prop} {px : SX → Prop} {B : S → State → Prop} {BX : String → SX → State → Prop} {AX : Nat → Prop} (hr : vx_Run p l e R s m args below meth c H locs cells slots mc ms (F0 m pc ls st0) rest (va_Qv post B A1 a) (vx_X px BX AX) free) (hS : va_S A0 H0 H locs) (hA : ∀ q, q < H.size → A1 q → A0 q) (hf : ∀ q, free q → A0 q) (hAX : ∀ q, q < H.size → AX q → A0 q)
    (kx : ∀ (E : String) (ce : Cell) (q9 : Addr) (u : SX) (t : State) (H1 : Heap) (locs1 : List Loc), t.heap = H1 → s.vm.Alike t.vm → px u → BX E u t → H.size ≤ H1.size → (∀ q : Nat, q < H.size → ¬ AX q → H1[q]? = H[q]?) → va_S A0 H0 H1 locs1 → H1[q9]? = some ce → ce.vm = .none → s.vm.findClass E = some ce.cls → vx_W p l e R s m args below meth c H1 locs1 (cells + mc) (slots + ms) Q (F0 m pc ls rest) q9)
    (kk : ∀ (u : S) (t : State) (H1 : Heap) (locs1 : List Loc), t.heap = H1 → s.vm.Alike t.vm → post u → B u t → H.size ≤ H1.size → (∀ q : Nat, q < H.size → ¬ A1 q → H1[q]? = H[q]?) → va_S A0 H0 H1 locs1 → W p l e R s m args below meth c H1 locs1 (cells + mc) (slots + ms) Q (F0 m (pc + 3) ls (rest))) : W p l e R s m args below meth c H locs cells slots Q (F0 m pc ls st0) := by
  intro T hT X
  rcases hr T hT X with ⟨v, st₀, t, T', L, h0, X', hL, e1, e2, ⟨⟨u, hv, hp, hb⟩, hF⟩, st⟩ | ⟨q, st₀, t, T', L, E, ce, h0, X', hL, e1, e2, ⟨u, hp, hb, hF⟩, hce, hcv, hcl, st⟩
  · cases hv
    obtain ⟨k1, k2, k3⟩ := vx_keep h0 e1 hS hA hf hL hF
    obtain ⟨t2, a1, b1⟩ := kk u t T'.heap (locs ++ L) e1.symm (by rw [← e2]; exact X'.warmed.alike) hp hb k1 k2 k3 T' rfl X'
    exact ⟨t2, st t2 a1, b1⟩
  · obtain ⟨k1, k2, k3⟩ := vx_keep h0 e1 hS hAX hf hL hF
    obtain ⟨t2, a1, b1⟩ := kx E ce q u t T'.heap (locs ++ L) e1.symm (by rw [← e2]; exact X'.warmed.alike) hp hb k1 k2 k3 (by rw [e1]; exact hce) hcv hcl T' rfl X'
    exact ⟨t2, st.trans a1, b1⟩
/-- caught by the row x of this method's table; the rows ahead don't take it -/
theorem vx_catch {own name : String} {E : String} {ce : Cell} {q : Addr} (hown : s.vm.findClass own = some m.cls) (pre : List ExceptionTableEntry) (x : ExceptionTableEntry) (suf : List ExceptionTableEntry) (hsplit : c.exceptionTable.toList = pre ++ x :: suf)
    (hpass : ∀ z ∈ pre, covers z pc = false ∨ (z.catchType ≠ 0 ∧ ∃ nm : String, (Cond.classLink own z.catchType nm).before args s = true ∧ va_Nc E nm s)) (hx : covers x pc = true) (h0 : x.catchType ≠ 0)
    (hlink : (Cond.classLink own x.catchType name).before args s = true) (hcast : (Cond.castable E name).before args s = true) (hcell : H[q]? = some ce) (hv : ce.vm = .none) (hcl : s.vm.findClass E = some ce.cls)
    (kk : W p l e R s m args below meth c H locs cells slots Q (F0 m x.handlerPc ls [.ref q])) : vx_W p l e R s m args below meth c H locs cells slots Q (F0 m pc ls rest) q := by
  intro T hT X
  have hpl : e.platform.magicAccessors = ({} : Platform).magicAccessors := by rw [X.admits.platform]
  obtain ⟨c3, c4, hc3, hc4, hasg⟩ := Cond.castable_spec hcast
  cases Option.some.inj (hc3.symm.trans hcl)
  obtain ⟨c5, hc5, hcl5⟩ := Cond.classLink_spec hown hlink e.platform hpl
  cases Option.some.inj (hc4.symm.trans hc5)
  obtain ⟨vm', X', st⟩ := X.thenCaughtThrough q (g := F0 m pc ls rest) rfl (Steps.refl _) (by rw [hT]; exact hcell) (by rw [hv]; rfl) (by obtain ⟨k9, h9, -⟩ := Vm.findClass_spec hcl; exact ⟨k9, h9⟩) pre x suf hsplit
    (fun z hz => by
      rcases hpass z hz with h | ⟨hz0, nm, hl1, hn1⟩
      · exact Or.inl h
      · obtain ⟨c6, hc6, hcl6⟩ := Cond.classLink_spec hown hl1 e.platform hpl
        obtain ⟨a8, b8, h1, h2, h3⟩ := hn1
        cases Option.some.inj (h1.symm.trans hcl)
        cases Option.some.inj (h2.symm.trans hc6)
        exact Or.inr ⟨hz0, _, hcl6, h3⟩) hx (Or.inr ⟨h0, c4, hcl5, hasg⟩)
  obtain ⟨t, a1, b1⟩ := kk (T.setVm vm') hT X'
  exact ⟨t, st.trans a1, b1⟩
end Rows
section Ends
variable {p : Program} {l : Launch} {e : Env} {R : Room} {s : State} {m : MethodId} {args : Array Value} {below : List Frame} {meth : Method} {c : Code} {H : Heap} {locs : List Loc} {cells slots : Nat} {Q : State → Prop}
variable {mc ms : Nat} {free : Addr → Prop} {A0 A1 : Nat → Prop} {H0 : Heap} {a : Array Value} {ls : Array Slot} {st0 rest : List Value}
variable {Qc : Array Value → State → Outcome → State → Prop} {XC : String → State → State → Prop}
/-- what a body that may throw owes at its end -/
def vx_MQ (below : List Frame) (Qc : Array Value → State → Outcome → State → Prop) (XC : String → State → State → Prop) (a : Array Value) (s : State) (mc ms : Nat) (free : Addr → Prop) : State → Prop := fun t =>
  ∃ o, t.status = .running ∧ Ended t below o ∧ vx_Q Qc XC mc ms free a s o t
theorem vx_ret {g : JFrame} {mc ms : Nat} (k : W p l e R s m args below meth c H locs cells slots (MQ below Qc args s mc ms free) g) : W p l e R s m args below meth c H locs cells slots (vx_MQ below Qc XC args s mc ms free) g := by
  intro T hT X
  obtain ⟨t, a1, o, b1, b2, b3, b4⟩ := k T hT X
  exact ⟨t, a1, o, b1, b2, Or.inl ⟨b3, b4⟩⟩
/-- not caught here: it goes on to the caller -/
theorem vx_widen {g : JFrame} {q : Addr} {k n : Nat} (h1 : cells ≤ k) (h2 : slots ≤ n) (kk : vx_W p l e R s m args below meth c H locs k n Q g q) : vx_W p l e R s m args below meth c H locs cells slots Q g q := fun T hT X => kk T hT (stand_widen X h1 h2)
theorem vx_out {pc : Nat} {E : String} {ce : Cell} {q : Addr} {mc ms : Nat} (hout : ∀ x ∈ c.exceptionTable.toList, covers x pc = false) (hlocks : meth.locks = false) (hcell : H[q]? = some ce) (hv : ce.vm = .none) (hcl : s.vm.findClass E = some ce.cls)
    (hx : ∀ t : State, t.heap = H → s.vm.Alike t.vm → XC E s t) (hf : ∀ z ∈ locs, free z.base) (hc : cells ≤ mc) (hs : slots ≤ ms) :
    vx_W p l e R s m args below meth c H locs cells slots (vx_MQ below Qc XC args s mc ms free) (F0 m pc ls rest) q := by
  intro T hT X
  obtain ⟨st1, hrun, hend, hW, hsm⟩ := X.leaveThrown q (g := F0 m pc ls rest) rfl rfl rfl hout hlocks
  have hcell9 : (T.setFrames (.throwing q :: below)).heap[q]? = some ce := by
    show T.heap[q]? = some ce
    rw [hT]; exact hcell
  exact ⟨_, st1, .threw q, hrun, hend, Or.inr ⟨q, rfl, E, ce, locs, hx _ hT hW.alike, hcell9, hv, hcl, hW, hsm.mono hc hs, hf⟩⟩
theorem vx_frame {U : State} {k n : Nat} (h : s.sameButNew ({ U with vm := s.vm } : State) locs k n) : s.heap.size ≤ U.heap.size ∧ ∀ q : Nat, q < s.heap.size → (∀ z ∈ locs, z.base ≠ q) → U.heap[q]? = s.heap[q]? := by
  obtain ⟨-, h2, -, -, -, h6⟩ := h
  refine ⟨h2, fun q hq hz => ?_⟩
  obtain ⟨c9, e1, e2, e3, e4⟩ := h6 q _ (Array.getElem?_eq_getElem hq)
  have hs : c9.slots = (s.heap[q]).slots := Array.ext_getElem? fun i => e4 i fun hm => hz _ hm rfl
  have h9 : c9 = s.heap[q] := by
    rw [hs] at e2
    exact e2
  have e5 : U.heap[q]? = some c9 := e1
  rw [e5, h9, Array.getElem?_eq_getElem hq]
/-- the words of a throw but the four that speak of the heap -/
def vx_no (w : Cond) : Bool := decide (w ≠ .isRef (.static Bundle.tN "UNASSIGNED_STACK" Bundle.steD)) && decide (w ≠ .isRef (.static Bundle.tN "SUPPRESSED_SENTINEL" Bundle.listD)) && decide (w ≠ .laysStatic Bundle.tN "UNASSIGNED_STACK" Bundle.steD) && decide (w ≠ .laysStatic Bundle.tN "SUPPRESSED_SENTINEL" Bundle.listD)
def vx_at0 (own : String) (ic : Nat) (X : String) (names : List String) : List Cond := (Bundle.ownAtoms0 own ic X names).filter vx_no
def vx_atS (own : String) (ic : Nat) (X : String) (names : List String) : List Cond := (Bundle.ownAtoms own ic X names).filter vx_no
/-- a word that the tables alone decide, or a good one -/
def vx_ot (w : Cond) : Bool := w.onTables || goodWord w
theorem vx_ot_at {args a' : Array Value} {s U : State} {w : Cond} (hW : s.WarmedH U.vm) (hvm : s.vm = U.vm) (hg : vx_ot w = true) (h : w.before args s = true) : w.before a' U = true := by
  simp only [vx_ot, Bool.or_eq_true] at hg
  rcases hg with hg | hg
  · exact va_tabs hg hvm h
  · exact word_at hW (good_of_word hg) h
/-- a list's words: the good ones out of the method's own list, the others by premises of their own -/
theorem vx_hat {args : Array Value} {s : State} {L B : List Cond} (h1 : ∀ w ∈ L.filter goodWord, w.before args s = true) (h2 : ∀ w ∈ L.filter (fun w => !goodWord w), w ∈ B) (h3 : ∀ w ∈ B, w.before args s = true) : ∀ w ∈ L, w.before args s = true := by
  intro w hw
  by_cases g : goodWord w = true
  · exact h1 w (List.mem_filter.mpr ⟨hw, g⟩)
  · refine h3 w (h2 w (List.mem_filter.mpr ⟨hw, ?_⟩))
    show (!goodWord w) = true
    cases hgw : goodWord w
    · rfl
    · exact absurd hgw g
theorem vx_c {args : Array Value} {s : State} {w : Cond} {B : List Cond} (h : w.before args s = true) (t : ∀ w ∈ B, w.before args s = true) : ∀ w' ∈ w :: B, w'.before args s = true := fun w' h' => (List.mem_cons.mp h').elim (fun e => by rw [e]; exact h) (t w')
theorem vx_n {args : Array Value} {s : State} : ∀ w ∈ ([] : List Cond), w.before args s = true := fun _ h => nomatch h
theorem vx_own {args : Array Value} {s : State} {L : List Cond} (h1 : ∀ w ∈ L.filter vx_no, w.before args s = true)
    (hU : (Cond.isRef (.static Bundle.tN "UNASSIGNED_STACK" Bundle.steD)).before args s = true) (hN : (Cond.isRef (.static Bundle.tN "SUPPRESSED_SENTINEL" Bundle.listD)).before args s = true)
    (lU : (Cond.laysStatic Bundle.tN "UNASSIGNED_STACK" Bundle.steD).before args s = true) (lN : (Cond.laysStatic Bundle.tN "SUPPRESSED_SENTINEL" Bundle.listD).before args s = true) : ∀ w ∈ L, w.before args s = true := by
  intro w hw
  by_cases e1 : w = .isRef (.static Bundle.tN "UNASSIGNED_STACK" Bundle.steD)
  · rw [e1]; exact hU
  · by_cases e2 : w = .isRef (.static Bundle.tN "SUPPRESSED_SENTINEL" Bundle.listD)
    · rw [e2]; exact hN
    · by_cases e3 : w = .laysStatic Bundle.tN "UNASSIGNED_STACK" Bundle.steD
      · rw [e3]; exact lU
      · by_cases e4 : w = .laysStatic Bundle.tN "SUPPRESSED_SENTINEL" Bundle.listD
        · rw [e4]; exact lN
        · exact h1 w (List.mem_filter.mpr ⟨hw, by unfold vx_no; rw [decide_eq_true e1, decide_eq_true e2, decide_eq_true e3, decide_eq_true e4]; rfl⟩)
/-- where a static field lies, its class's statics cell in H -/
def vx_L (C n d : String) (A : Nat → Prop) (U : State) (H : Heap) : Prop := ∃ (c : ClassId) (k : Class) (i : Nat) (f : Field) (a : Nat) (cell : Cell), U.vm.findClass C = some c ∧ U.fieldFound? C n d = some (c, k, i, f) ∧ f.isStatic = true ∧ k.statics = some a ∧ H[a]? = some cell ∧ cell.vm.isStatics = true ∧ cell.cls = c ∧ f.slot < cell.slots.size ∧ k.staticTypes[f.slot]? = some f.type ∧ ¬ A a
theorem vx_L.moved {C n d : String} {A : Nat → Prop} {u U : State} {H : Heap} (hvm : u.vm.Alike U.vm) (h : vx_L C n d A u H) : vx_L C n d A U H := by
  obtain ⟨c, k, i, f, a, cell, h1, h2, h3, h4, h5, h6, h7, h8, h9, h10⟩ := h
  obtain ⟨k', hi', he⟩ := State.fieldFound?_setVm hvm h2
  exact ⟨c, k', i, f, a, cell, by rw [hvm.findClass]; exact h1, hi', h3, by rw [he]; exact h4, h5, h6, h7, h8, by rw [he]; exact h9, h10⟩
theorem vx_L.kept {C n d : String} {A : Nat → Prop} {U : State} {H H1 : Heap} (h : vx_L C n d A U H) (hq : ∀ a : Nat, a < H.size → ¬ A a → H1[a]? = H[a]?) : vx_L C n d A U H1 := by
  obtain ⟨c, k, i, f, a, cell, h1, h2, h3, h4, h5, h6, h7, h8, h9, h10⟩ := h
  exact ⟨c, k, i, f, a, cell, h1, h2, h3, h4, by rw [hq a (Array.getElem?_eq_some_iff.mp h5).1 h10]; exact h5, h6, h7, h8, h9, h10⟩
theorem vx_L.narrow {C n d : String} {A B : Nat → Prop} {U : State} {H : Heap} (h : vx_L C n d A U H) (hAB : ∀ q, B q → A q) : vx_L C n d B U H := by
  obtain ⟨c, k, i, f, a, cell, h1, h2, h3, h4, h5, h6, h7, h8, h9, h10⟩ := h
  exact ⟨c, k, i, f, a, cell, h1, h2, h3, h4, h5, h6, h7, h8, h9, fun z => h10 (hAB _ z)⟩
theorem vx_L.word {C n d : String} {A : Nat → Prop} {s : State} {args : Array Value} (h : vx_L C n d A s s.heap) : (Cond.laysStatic C n d).before args s = true := by
  obtain ⟨c, k, i, f, a, cell, h1, h2, h3, h4, h5, h6, h7, h8, h9, -⟩ := h
  show (Cond.laysStatic C n d).holds args s none s [] = true
  exact Cond.laysStatic_of h1 h2 h3 h4 h5 h6 h7 h8 h9
/-- .. and what it holds: null or some reference -/
def vx_Zq (C n d : String) (A : Nat → Prop) (U : State) (H : Heap) : Prop := va_Zq C n d A U H ∧ vx_L C n d A U H
theorem vx_Zq.moved {C n d : String} {A : Nat → Prop} {u U : State} {H : Heap} (hvm : u.vm.Alike U.vm) (h : vx_Zq C n d A u H) : vx_Zq C n d A U H := ⟨va_Zq.moved hvm h.1, vx_L.moved hvm h.2⟩
theorem vx_Zq.kept {C n d : String} {A : Nat → Prop} {U : State} {H H1 : Heap} (h : vx_Zq C n d A U H) (hq : ∀ a : Nat, a < H.size → ¬ A a → H1[a]? = H[a]?) : vx_Zq C n d A U H1 := ⟨va_Zq.kept h.1 hq, vx_L.kept h.2 hq⟩
theorem vx_Zq.narrow {C n d : String} {A B : Nat → Prop} {U : State} {H : Heap} (h : vx_Zq C n d A U H) (hAB : ∀ q, B q → A q) : vx_Zq C n d B U H := ⟨va_Zq.narrow h.1 hAB, vx_L.narrow h.2 hAB⟩
theorem vx_Zqof {args : Array Value} {s : State} {C n d : String} {A : Nat → Prop} (hl : (Cond.laysStatic C n d).before args s = true) (hini : (Cond.initialized C).before args s = true) (h : (Cond.isRef (.static C n d)).before args s = true) (hA : ∀ a : Nat, a < s.heap.size → ¬ A a) : vx_Zq C n d A s s.heap := by
  refine ⟨va_Zqof hl hini h hA, ?_⟩
  obtain ⟨c, k, i, f, a, cell, h1, h2, h3, h4, h5, h6, h7, h8, h9⟩ := Cond.laysStatic_spec hl
  exact ⟨c, k, i, f, a, cell, h1, h2, h3, h4, h5, h6, h7, h8, h9, hA a (Array.getElem?_eq_some_iff.mp h5).1⟩
theorem vx_isRef {C n d : String} {v : Value} {A : Nat → Prop} {s : State} {args : Array Value} (h : va_Z C n d v A s s.heap) (hv : v.isRef = true) : (Cond.isRef (.static C n d)).before args s = true := by
  obtain ⟨cf, kf, fi, f, a, cell, h1, h2, h3, h4, h5, h6, h7, -⟩ := h
  have he : (Term.static C n d).eval args s none [] s = some v := by
    simp [Term.eval, State.fieldNamed?, h1, h2, h4, h5, h6, h7]
  simp only [Cond.before, Cond.holds, Cond.value, he]
  cases v <;> simp_all [Value.isRef]
theorem vx_isRefq {C n d : String} {A : Nat → Prop} {s : State} {args : Array Value} (h : va_Zq C n d A s s.heap) : (Cond.isRef (.static C n d)).before args s = true := by
  rcases h with h | ⟨t, h⟩
  · exact vx_isRef h rfl
  · exact vx_isRef h rfl
/-- the same frame, seen from here: as if the method were called anew in this heap -/
theorem vx_rebase {T : State} (X : Stand p l e R s m args below meth c T locs cells slots) {R' : Room} (hf : R'.frames ≤ R.frames) (hl : R'.locals ≤ R.locals) (hc : cells + R'.cells ≤ R.cells) (hs : slots + R'.slots ≤ R.slots) :
    Stand p l e R' ((T.setVm s.vm).setFrames (.invoking m args :: below)) m args below meth c T [] 0 0 := by
  have htop : (T.setVm s.vm).topJava?.isSome := X.here.top
  have hF : ((T.setVm s.vm).setFrames (.invoking m args :: below)).frames = .invoking m args :: below := State.frames_setFrames _ (State.cur_lt_of_top htop)
  obtain ⟨g₀, hg0⟩ := Option.isSome_iff_exists.mp htop
  obtain ⟨r, hr⟩ := State.topJava?_eq_some.mp hg0
  have hl9 : e.platform.stackLimits (T.setVm s.vm).me = e.platform.stackLimits s.me := X.limits
  have hb9 : (T.setVm s.vm).me.stackBytes = s.me.stackBytes := X.bytes
  refine ⟨X.admits, X.cas, X.clock, hF, ?_, X.hears, X.method, X.code, X.here, X.tail, X.warmed, ?_, ?_, ?_⟩
  · have h := X.room
    have hU : ((T.setVm s.vm).setFrames (.invoking m args :: below)).localsInUse = s.localsInUse := by
      rw [State.localsInUse_invoking hF (meth := meth) (c := c) X.method X.code, State.localsInUse_invoking X.frames X.method X.code]
    simp only [State.hasRoom, Bool.and_eq_true, decide_eq_true_eq] at h ⊢
    obtain ⟨⟨⟨⟨h1, h2, h3, h4, h5, h6⟩, h7⟩, h8⟩, h9⟩ := h
    rw [X.frames, List.length_cons] at h2 h3
    have q1 := X.heapSize
    have q2 := X.used
    simp only [hF, hU, List.length_cons, State.stackLimits_setFrames, State.stackBytes_setFrames, hl9, hb9]
    refine ⟨⟨⟨⟨by omega, by omega, by omega, by omega, by omega, h6⟩, ?_⟩, ?_⟩, X.book⟩
    · show T.heap.size + R'.cells ≤ e.platform.maxCells
      omega
    · show T.slotsUsed + R'.slots ≤ e.platform.maxSlots
      omega
  · rw [State.stackLimits_setFrames]; rfl
  · rw [State.stackBytes_setFrames]; rfl
  · refine ⟨?_, Nat.le_refl _, Nat.le_refl _, ?_, ?_, fun a c9 h9 => ⟨c9, h9, rfl, rfl, fun _ _ => rfl⟩⟩
    · obtain ⟨t, ht, -⟩ := State.frames_cons hr
      show T.setVm s.vm = { ((T.setVm s.vm).setFrames (.invoking m args :: below)).setFrames (T.setVm s.vm).frames with heap := T.heap, slotsUsed := T.slotsUsed }
      rw [State.setFrames_setFrames, State.setFrames_self ht]
      rfl
    · show T.slotsUsed = T.slotsUsed + ((T.heap.toList.drop T.heap.size).map (·.slots.size)).sum
      rw [List.drop_eq_nil_of_le (Nat.le_of_eq Array.length_toList)]
      rfl
    · show ((T.heap.toList.drop T.heap.size).map (·.slots.size)).sum ≤ 0
      rw [List.drop_eq_nil_of_le (Nat.le_of_eq Array.length_toList)]
      exact Nat.le_refl _
/-- 'throw new E()': new; dup; invokespecial; athrow -/
theorem vx_throw0 {cc : ByteArray} {pc : Nat} (hexec : p.tables.exec = Jvm.exec) (hb : c.code = cc) (hl : l.stackTraces = false) {own cls : String} {names : List String} {ik ic mc ms : Nat} {A : Nat → Prop}
    (hown : s.vm.findClass own = some m.cls) (hcls : Bundle.fit cls = true) (hnames : ∀ n ∈ names, Bundle.fit n = true)
    (hk : (Cond.classLink own ik cls).before args s = true) (hini : (Cond.initialized cls).before args s = true) (hat : ∀ w ∈ vx_at0 own ic cls names, w.before args s = true)
    (hgood : ∀ w ∈ Cond.classLink own ik cls :: Cond.initialized cls :: vx_at0 own ic cls names, vx_ot w = true)
    (hU : vx_Zq Bundle.tN "UNASSIGNED_STACK" Bundle.steD A s s.heap) (hN : vx_Zq Bundle.tN "SUPPRESSED_SENTINEL" Bundle.listD A s s.heap) (hS : va_S A s.heap H locs) (hsize : ls.size = c.maxLocals)
    (d0 : decode cc pc = .ok (.new ik, 3)) (d3 : decode cc (pc + 3) = .ok (.dup, 1)) (d4 : decode cc (pc + 4) = .ok (.invokespecial ic, 3)) (d7 : decode cc (pc + 7) = .ok (.athrow, 1))
    (hout : ∀ x ∈ c.exceptionTable.toList, covers x (pc + 7) = false)
    (hRframes : names.length + 3 < R.frames) (hRlocals : (rest.map fun v => v.category).sum + (13 * (names.length + 1) + 42) ≤ R.locals) (hRcells : cells + 1 ≤ R.cells) (hRslots : slots + 6 ≤ R.slots) (hlocks : meth.locks = false)
    (hx : ∀ t : State, s.vm.Alike t.vm → H.size ≤ t.heap.size → (∀ q : Nat, q < H.size → t.heap[q]? = H[q]?) → XC cls s t)
    (hf : ∀ z ∈ locs, free z.base) (hc : cells + 1 ≤ mc) (hs : slots + 6 ≤ ms) :
    W p l e R s m args below meth c H locs cells slots (vx_MQ below Qc XC args s mc ms free) (F0 m pc ls rest) := by
  intro T hT X
  have htr : e.platform.stackTraces = false := (show e.platform.stackTraces = l.stackTraces by rw [X.admits.platform]).trans hl
  have Y := vx_rebase X (R' := { frames := R.frames, locals := R.locals, cells := 1, slots := 6 }) (Nat.le_refl _) (Nat.le_refl _) hRcells hRslots
  obtain ⟨s', hA⟩ : ∃ z, z = (T.setVm s.vm).setFrames (.invoking m args :: below) := ⟨_, rfl⟩
  rw [← hA] at Y
  have hvm : s'.vm = s.vm := by rw [hA]; rfl
  have hhp : s'.heap = H := by rw [hA]; exact hT
  have hW0 : s.WarmedH s'.vm := by rw [hvm]; exact State.WarmedH.refl s
  have hat' : ∀ w ∈ vx_at0 own ic cls names, w.before args s' = true := fun w hw => vx_ot_at hW0 hvm.symm (hgood w (List.mem_cons_of_mem _ (List.mem_cons_of_mem _ hw))) (hat w hw)
  have hk' : (Cond.classLink own ik cls).before args s' = true := vx_ot_at hW0 hvm.symm (hgood _ List.mem_cons_self) hk
  have hini' : (Cond.initialized cls).before args s' = true := vx_ot_at hW0 hvm.symm (hgood _ (List.mem_cons_of_mem _ List.mem_cons_self)) hini
  have hU' : vx_Zq Bundle.tN "UNASSIGNED_STACK" Bundle.steD A s' s'.heap := by rw [hhp]; exact vx_Zq.moved hW0.alike (hU.kept hS.2.1)
  have hN' : vx_Zq Bundle.tN "SUPPRESSED_SENTINEL" Bundle.listD A s' s'.heap := by rw [hhp]; exact vx_Zq.moved hW0.alike (hN.kept hS.2.1)
  have h : ∀ w ∈ Bundle.ownAtoms0 own ic cls names, w.before args s' = true := vx_own hat' (vx_isRefq hU'.1) (vx_isRefq hN'.1) hU'.2.word hN'.2.word
  have hown' : s'.vm.findClass own = some m.cls := by rw [hvm]; exact hown
  have hins : (Cond.instantiable cls 6).before args s' = true := h _ (by simp [Bundle.ownAtoms0])
  obtain ⟨vm₁, cX, kX, hfX, hkX, -, -, X₁, st1⟩ := Y.newCold hexec (own := own) (C := cls) (index := ik) (n := 6) hown' hk' hins hini'
    (g := F0 m pc ls rest) rfl (by rw [hb]; exact d0) (Nat.le_refl _) (Nat.le_refl _)
  generalize hT1 : (T.setVm vm₁).pushCell { cls := cX, slots := kX.instanceTypes.map defaultValue, vm := .none } = T1 at X₁ st1
  have hcat : (Value.ref T.heap.size).category = 1 := rfl
  have hcellA : T1.heap[T.heap.size]? = some (freshCell cX kX) := by rw [← hT1]; exact State.heap_pushCell_size _ _
  have d3' : decode c.code (pc + 3) = .ok (.dup, 1) := by rw [hb]; exact d3
  obtain ⟨U, hsteps, hrun, hend, hW, hsame, ce, hce, hO⟩ := X₁.ctorThrow0 hexec htr (own := own) (cls := cls) (names := names) (ic := ic) hown' hcls hnames h (fun x hx => nomatch hx) hfX hkX hcellA (by rw [hhp, hT]; exact Nat.le_refl _)
    (g := { method := m, pc := pc + 4, locals := ls, stack := .ref T.heap.size :: .ref T.heap.size :: rest, locked := none }) rfl hsize rfl rfl (rest := rest) rfl
    (by rw [hb]; exact d4) (by rw [hb]; exact d7) hout hRframes (by simp only [List.map_cons, List.sum_cons, hcat]; omega) hlocks
  obtain ⟨f1, f2⟩ := vx_frame hsame
  rw [hhp] at f1 f2
  have hWs : s.WarmedH U.vm := State.WarmedH.trans hW0 hW
  have hcl : s.vm.findClass cls = some ce.cls := by
    have h9 := hO.cls
    rw [hvm] at h9
    exact h9
  have hall : s.sameButNew ({ U with vm := s.vm } : State) locs mc ms := by
    subst hA
    obtain ⟨e1, e2⟩ := hsame
    rw [State.setFrames_setFrames] at e1
    have h2 : (T.setVm s.vm).sameButNew ({ U with vm := s.vm } : State) [] (0 + 1) (0 + 6) := ⟨e1, e2⟩
    have h3 := X.same.trans h2
    rw [List.append_nil] at h3
    exact h3.mono hc hs
  refine ⟨U, ?_, .threw T.heap.size, hrun, hend, Or.inr ⟨T.heap.size, rfl, cls, ce, locs, hx U hWs.alike f1 (fun q hq => f2 q hq (fun z hz => nomatch hz)), hce, hO.vm, hcl, hWs, hall, hf⟩⟩
  refine st1 _ ?_
  show Steps p.tables e below (T1.setTop { method := m, pc := pc + 3, locals := ls, stack := .ref T.heap.size :: rest, locked := none }) _
  jvm_step X₁.here [X₁.here.top, hexec, d3', Value.category]
  exact hsteps
/-- 'throw new E("text")': new; dup; ldc; invokespecial; athrow -/
theorem vx_throwS {cc : ByteArray} {pc : Nat} (hexec : p.tables.exec = Jvm.exec) (hb : c.code = cc) (hl : l.stackTraces = false) {own cls text : String} {names : List String} {ik is ic mc ms sa : Nat} {A : Nat → Prop}
    (hown : s.vm.findClass own = some m.cls) (hcls : Bundle.fit cls = true) (hnames : ∀ n ∈ names, Bundle.fit n = true)
    (hk : (Cond.classLink own ik cls).before args s = true) (hini : (Cond.initialized cls).before args s = true) (hstr : vk_R own is text sa s) (hat : ∀ w ∈ vx_atS own ic cls names, w.before args s = true)
    (hgood : ∀ w ∈ Cond.classLink own ik cls :: Cond.initialized cls :: vx_atS own ic cls names, vx_ot w = true)
    (hU : vx_Zq Bundle.tN "UNASSIGNED_STACK" Bundle.steD A s s.heap) (hN : vx_Zq Bundle.tN "SUPPRESSED_SENTINEL" Bundle.listD A s s.heap) (hS : va_S A s.heap H locs) (hsize : ls.size = c.maxLocals)
    (d0 : decode cc pc = .ok (.new ik, 3)) (d3 : decode cc (pc + 3) = .ok (.dup, 1)) (d4 : decode cc (pc + 4) = .ok (.ldc is, 2)) (d6 : decode cc (pc + 6) = .ok (.invokespecial ic, 3)) (d9 : decode cc (pc + 9) = .ok (.athrow, 1))
    (hout : ∀ x ∈ c.exceptionTable.toList, covers x (pc + 9) = false)
    (hRframes : names.length + 3 < R.frames) (hRlocals : (rest.map fun v => v.category).sum + (13 * (names.length + 1) + 43) ≤ R.locals) (hRcells : cells + 1 ≤ R.cells) (hRslots : slots + 6 ≤ R.slots) (hlocks : meth.locks = false)
    (hx : ∀ t : State, s.vm.Alike t.vm → H.size ≤ t.heap.size → (∀ q : Nat, q < H.size → t.heap[q]? = H[q]?) → XC cls s t)
    (hf : ∀ z ∈ locs, free z.base) (hc : cells + 1 ≤ mc) (hs : slots + 6 ≤ ms) :
    W p l e R s m args below meth c H locs cells slots (vx_MQ below Qc XC args s mc ms free) (F0 m pc ls rest) := by
  intro T hT X
  have htr : e.platform.stackTraces = false := (show e.platform.stackTraces = l.stackTraces by rw [X.admits.platform]).trans hl
  have Y := vx_rebase X (R' := { frames := R.frames, locals := R.locals, cells := 1, slots := 6 }) (Nat.le_refl _) (Nat.le_refl _) hRcells hRslots
  obtain ⟨s', hA⟩ : ∃ z, z = (T.setVm s.vm).setFrames (.invoking m args :: below) := ⟨_, rfl⟩
  rw [← hA] at Y
  have hvm : s'.vm = s.vm := by rw [hA]; rfl
  have hhp : s'.heap = H := by rw [hA]; exact hT
  have hW0 : s.WarmedH s'.vm := by rw [hvm]; exact State.WarmedH.refl s
  have hat' : ∀ w ∈ vx_atS own ic cls names, w.before args s' = true := fun w hw => vx_ot_at hW0 hvm.symm (hgood w (List.mem_cons_of_mem _ (List.mem_cons_of_mem _ hw))) (hat w hw)
  have hk' : (Cond.classLink own ik cls).before args s' = true := vx_ot_at hW0 hvm.symm (hgood _ List.mem_cons_self) hk
  have hini' : (Cond.initialized cls).before args s' = true := vx_ot_at hW0 hvm.symm (hgood _ (List.mem_cons_of_mem _ List.mem_cons_self)) hini
  have hU' : vx_Zq Bundle.tN "UNASSIGNED_STACK" Bundle.steD A s' s'.heap := by rw [hhp]; exact vx_Zq.moved hW0.alike (hU.kept hS.2.1)
  have hN' : vx_Zq Bundle.tN "SUPPRESSED_SENTINEL" Bundle.listD A s' s'.heap := by rw [hhp]; exact vx_Zq.moved hW0.alike (hN.kept hS.2.1)
  have h : ∀ w ∈ Bundle.ownAtoms own ic cls names, w.before args s' = true := vx_own hat' (vx_isRefq hU'.1) (vx_isRefq hN'.1) hU'.2.word hN'.2.word
  have hown' : s'.vm.findClass own = some m.cls := by rw [hvm]; exact hown
  have hins : (Cond.instantiable cls 6).before args s' = true := h _ (by simp [Bundle.ownAtoms])
  obtain ⟨vm₁, cX, kX, hfX, hkX, -, -, X₁, st1⟩ := Y.newCold hexec (own := own) (C := cls) (index := ik) (n := 6) hown' hk' hins hini'
    (g := F0 m pc ls rest) rfl (by rw [hb]; exact d0) (Nat.le_refl _) (Nat.le_refl _)
  generalize hT1 : (T.setVm vm₁).pushCell { cls := cX, slots := kX.instanceTypes.map defaultValue, vm := .none } = T1 at X₁ st1
  have hcat : (Value.ref T.heap.size).category = 1 := rfl
  have hcellA : T1.heap[T.heap.size]? = some (freshCell cX kX) := by rw [← hT1]; exact State.heap_pushCell_size _ _
  have d3' : decode c.code (pc + 3) = .ok (.dup, 1) := by rw [hb]; exact d3
  have d4' : decode c.code (pc + 4) = .ok (.ldc is, 2) := by rw [hb]; exact d4
  have hstr' : vk_R own is text sa s' := vk_R.warm hW0 hstr
  obtain ⟨U, hsteps, hrun, hend, hW, hsame, ce, hce, hO⟩ := X₁.ctorThrowS hexec htr (own := own) (cls := cls) (names := names) (ic := ic) hown' hcls hnames h (fun x hx => nomatch hx) hfX hkX hcellA (by rw [hhp, hT]; exact Nat.le_refl _) (msg := .ref sa) rfl
    (g := { method := m, pc := pc + 6, locals := ls, stack := .ref sa :: .ref T.heap.size :: .ref T.heap.size :: rest, locked := none }) rfl hsize rfl rfl (rest := rest) rfl
    (by rw [hb]; exact d6) (by rw [hb]; exact d9) hout hRframes (by simp only [List.map_cons, List.sum_cons, hcat]; omega) hlocks
  obtain ⟨f1, f2⟩ := vx_frame hsame
  rw [hhp] at f1 f2
  have hWs : s.WarmedH U.vm := State.WarmedH.trans hW0 hW
  have hcl : s.vm.findClass cls = some ce.cls := by
    have h9 := hO.cls
    rw [hvm] at h9
    exact h9
  have hall : s.sameButNew ({ U with vm := s.vm } : State) locs mc ms := by
    subst hA
    obtain ⟨e1, e2⟩ := hsame
    rw [State.setFrames_setFrames] at e1
    have h2 : (T.setVm s.vm).sameButNew ({ U with vm := s.vm } : State) [] (0 + 1) (0 + 6) := ⟨e1, e2⟩
    have h3 := X.same.trans h2
    rw [List.append_nil] at h3
    exact h3.mono hc hs
  refine ⟨U, ?_, .threw T.heap.size, hrun, hend, Or.inr ⟨T.heap.size, rfl, cls, ce, locs, hx U hWs.alike f1 (fun q hq => f2 q hq (fun z hz => nomatch hz)), hce, hO.vm, hcl, hWs, hall, hf⟩⟩
  refine st1 _ ?_
  show Steps p.tables e below (T1.setTop { method := m, pc := pc + 3, locals := ls, stack := .ref T.heap.size :: rest, locked := none }) _
  jvm_step X₁.here [X₁.here.top, hexec, d3', Value.category]
  exact X₁.ldcString hexec (own := own) (text := text) (index := is) (a := sa) hown' hstr'.1 hstr'.2
    (g := { method := m, pc := pc + 4, locals := ls, stack := .ref T.heap.size :: .ref T.heap.size :: rest, locked := none }) rfl d4' _ hsteps
/-- 'throw new E("text")', the text by a wide index -/
theorem vx_throwSW {cc : ByteArray} {pc : Nat} (hexec : p.tables.exec = Jvm.exec) (hb : c.code = cc) (hl : l.stackTraces = false) {own cls text : String} {names : List String} {ik is ic mc ms sa : Nat} {A : Nat → Prop}
    (hown : s.vm.findClass own = some m.cls) (hcls : Bundle.fit cls = true) (hnames : ∀ n ∈ names, Bundle.fit n = true)
    (hk : (Cond.classLink own ik cls).before args s = true) (hini : (Cond.initialized cls).before args s = true) (hstr : vk_R own is text sa s) (hat : ∀ w ∈ vx_atS own ic cls names, w.before args s = true)
    (hgood : ∀ w ∈ Cond.classLink own ik cls :: Cond.initialized cls :: vx_atS own ic cls names, vx_ot w = true)
    (hU : vx_Zq Bundle.tN "UNASSIGNED_STACK" Bundle.steD A s s.heap) (hN : vx_Zq Bundle.tN "SUPPRESSED_SENTINEL" Bundle.listD A s s.heap) (hS : va_S A s.heap H locs) (hsize : ls.size = c.maxLocals)
    (d0 : decode cc pc = .ok (.new ik, 3)) (d3 : decode cc (pc + 3) = .ok (.dup, 1)) (d4 : decode cc (pc + 4) = .ok (.ldc_w is, 3)) (d7 : decode cc (pc + 7) = .ok (.invokespecial ic, 3)) (d10 : decode cc (pc + 10) = .ok (.athrow, 1))
    (hout : ∀ x ∈ c.exceptionTable.toList, covers x (pc + 10) = false)
    (hRframes : names.length + 3 < R.frames) (hRlocals : (rest.map fun v => v.category).sum + (13 * (names.length + 1) + 43) ≤ R.locals) (hRcells : cells + 1 ≤ R.cells) (hRslots : slots + 6 ≤ R.slots) (hlocks : meth.locks = false)
    (hx : ∀ t : State, s.vm.Alike t.vm → H.size ≤ t.heap.size → (∀ q : Nat, q < H.size → t.heap[q]? = H[q]?) → XC cls s t)
    (hf : ∀ z ∈ locs, free z.base) (hc : cells + 1 ≤ mc) (hs : slots + 6 ≤ ms) :
    W p l e R s m args below meth c H locs cells slots (vx_MQ below Qc XC args s mc ms free) (F0 m pc ls rest) := by
  intro T hT X
  have htr : e.platform.stackTraces = false := (show e.platform.stackTraces = l.stackTraces by rw [X.admits.platform]).trans hl
  have Y := vx_rebase X (R' := { frames := R.frames, locals := R.locals, cells := 1, slots := 6 }) (Nat.le_refl _) (Nat.le_refl _) hRcells hRslots
  obtain ⟨s', hA⟩ : ∃ z, z = (T.setVm s.vm).setFrames (.invoking m args :: below) := ⟨_, rfl⟩
  rw [← hA] at Y
  have hvm : s'.vm = s.vm := by rw [hA]; rfl
  have hhp : s'.heap = H := by rw [hA]; exact hT
  have hW0 : s.WarmedH s'.vm := by rw [hvm]; exact State.WarmedH.refl s
  have hat' : ∀ w ∈ vx_atS own ic cls names, w.before args s' = true := fun w hw => vx_ot_at hW0 hvm.symm (hgood w (List.mem_cons_of_mem _ (List.mem_cons_of_mem _ hw))) (hat w hw)
  have hk' : (Cond.classLink own ik cls).before args s' = true := vx_ot_at hW0 hvm.symm (hgood _ List.mem_cons_self) hk
  have hini' : (Cond.initialized cls).before args s' = true := vx_ot_at hW0 hvm.symm (hgood _ (List.mem_cons_of_mem _ List.mem_cons_self)) hini
  have hU' : vx_Zq Bundle.tN "UNASSIGNED_STACK" Bundle.steD A s' s'.heap := by rw [hhp]; exact vx_Zq.moved hW0.alike (hU.kept hS.2.1)
  have hN' : vx_Zq Bundle.tN "SUPPRESSED_SENTINEL" Bundle.listD A s' s'.heap := by rw [hhp]; exact vx_Zq.moved hW0.alike (hN.kept hS.2.1)
  have h : ∀ w ∈ Bundle.ownAtoms own ic cls names, w.before args s' = true := vx_own hat' (vx_isRefq hU'.1) (vx_isRefq hN'.1) hU'.2.word hN'.2.word
  have hown' : s'.vm.findClass own = some m.cls := by rw [hvm]; exact hown
  have hins : (Cond.instantiable cls 6).before args s' = true := h _ (by simp [Bundle.ownAtoms])
  obtain ⟨vm₁, cX, kX, hfX, hkX, -, -, X₁, st1⟩ := Y.newCold hexec (own := own) (C := cls) (index := ik) (n := 6) hown' hk' hins hini'
    (g := F0 m pc ls rest) rfl (by rw [hb]; exact d0) (Nat.le_refl _) (Nat.le_refl _)
  generalize hT1 : (T.setVm vm₁).pushCell { cls := cX, slots := kX.instanceTypes.map defaultValue, vm := .none } = T1 at X₁ st1
  have hcat : (Value.ref T.heap.size).category = 1 := rfl
  have hcellA : T1.heap[T.heap.size]? = some (freshCell cX kX) := by rw [← hT1]; exact State.heap_pushCell_size _ _
  have d3' : decode c.code (pc + 3) = .ok (.dup, 1) := by rw [hb]; exact d3
  have d4' : decode c.code (pc + 4) = .ok (.ldc_w is, 3) := by rw [hb]; exact d4
  have hstr' : vk_R own is text sa s' := vk_R.warm hW0 hstr
  obtain ⟨U, hsteps, hrun, hend, hW, hsame, ce, hce, hO⟩ := X₁.ctorThrowS hexec htr (own := own) (cls := cls) (names := names) (ic := ic) hown' hcls hnames h (fun x hx => nomatch hx) hfX hkX hcellA (by rw [hhp, hT]; exact Nat.le_refl _) (msg := .ref sa) rfl
    (g := { method := m, pc := pc + 7, locals := ls, stack := .ref sa :: .ref T.heap.size :: .ref T.heap.size :: rest, locked := none }) rfl hsize rfl rfl (rest := rest) rfl
    (by rw [hb]; exact d7) (by rw [hb]; exact d10) hout hRframes (by simp only [List.map_cons, List.sum_cons, hcat]; omega) hlocks
  obtain ⟨f1, f2⟩ := vx_frame hsame
  rw [hhp] at f1 f2
  have hWs : s.WarmedH U.vm := State.WarmedH.trans hW0 hW
  have hcl : s.vm.findClass cls = some ce.cls := by
    have h9 := hO.cls
    rw [hvm] at h9
    exact h9
  have hall : s.sameButNew ({ U with vm := s.vm } : State) locs mc ms := by
    subst hA
    obtain ⟨e1, e2⟩ := hsame
    rw [State.setFrames_setFrames] at e1
    have h2 : (T.setVm s.vm).sameButNew ({ U with vm := s.vm } : State) [] (0 + 1) (0 + 6) := ⟨e1, e2⟩
    have h3 := X.same.trans h2
    rw [List.append_nil] at h3
    exact h3.mono hc hs
  refine ⟨U, ?_, .threw T.heap.size, hrun, hend, Or.inr ⟨T.heap.size, rfl, cls, ce, locs, hx U hWs.alike f1 (fun q hq => f2 q hq (fun z hz => nomatch hz)), hce, hO.vm, hcl, hWs, hall, hf⟩⟩
  refine st1 _ ?_
  show Steps p.tables e below (T1.setTop { method := m, pc := pc + 3, locals := ls, stack := .ref T.heap.size :: rest, locked := none }) _
  jvm_step X₁.here [X₁.here.top, hexec, d3', Value.category]
  exact X₁.ldcStringW hexec (own := own) (text := text) (index := is) (a := sa) hown' hstr'.1 hstr'.2
    (g := { method := m, pc := pc + 4, locals := ls, stack := .ref T.heap.size :: .ref T.heap.size :: rest, locked := none }) rfl d4' _ hsteps
end Ends
section Bodies
variable {l : Launch}
theorem vx_ofW {y : MethodName} {ws ws' : List Cond} {rm : Room} {Pc : Array Value → State → Prop} {Qc : Array Value → State → Outcome → State → Prop} {XC : String → State → State → Prop} {mc ms : Nat} {free : Addr → Prop} {cc : ByteArray} {maxL : Nat} {ret : Option FieldType}
    (hy : plainName y.cls = true) (hw : ws = Cond.code y cc maxL ret :: ws')
    (body : ∀ p e s m args below meth c s₁, BodyLoose p l y (headSpec ws rm) cc maxL ret e s m args below meth c s₁ → c.maxLocals = maxL → (∀ x ∈ c.exceptionTable.toList, False) → Pc args s →
      W p l e (headSpec ws rm).room s m args below meth c s.heap [] 0 0 (vx_MQ below Qc XC args s mc ms free) (entryFrame m args maxL)) : vx_Met l y ws rm Pc Qc XC mc ms free := by
  refine MetFree.of_bodyS (code := cc) (maxLocals := maxL) (ret := ret) hy ?_ ?_
  · intro args s m h hn
    obtain ⟨meth, c, h1, h2, h3, h4, h5, h6, -, -⟩ := Cond.code_spec hn (atoms_spec (ws := ws) h _ (by rw [hw]; exact List.mem_cons_self))
    exact ⟨meth, c, h1, h2, h3, h4, h5, h6⟩
  · intro p e s m args below meth c s₁ B hml hP _
    have hh0 : s₁.heap = s.heap := by rw [B.state]; rfl
    have ht : ∀ x ∈ c.exceptionTable.toList, False := by
      obtain ⟨meth9, c9, h1, h2, -, -, -, -, h7, -⟩ := Cond.code_spec B.named (atoms_spec (ws := ws) B.pre _ (by rw [hw]; exact List.mem_cons_self))
      cases Option.some.inj (h1.symm.trans B.method)
      cases Option.some.inj (h2.symm.trans (Stand.of_body B).code)
      intro x hx
      rw [Array.isEmpty_iff.mp h7] at hx
      cases hx
    obtain ⟨t, a1, o, b1, b2, b3⟩ := body p e s m args below meth c s₁ B hml ht hP s₁ hh0 (Stand.of_body B)
    exact ⟨t, o, a1, b1, b2, b3⟩
/-- the table of a body with handlers -/
theorem vx_table {p : Program} {x y : MethodName} {S : Spec} {cc bytes : ByteArray} {maxL maxL' : Nat} {ret ret' : Option FieldType} {e : Env} {s s₁ : State} {m : MethodId} {args : Array Value} {below : List Frame} {meth : Method} {c : Code} {hh : List (Nat × Nat × Nat × Nat)}
    (B : BodyLoose p l y S cc maxL ret e s m args below meth c s₁) (h : (Cond.codeWith y bytes maxL' ret' hh).before args s = true) : c.exceptionTable.toList = tableOf hh := by
  obtain ⟨m9, meth9, c9, hn9, h1, h2, -, -, h6, -⟩ := Cond.codeWith_spec h
  cases Option.some.inj (hn9.symm.trans B.named)
  cases Option.some.inj (h1.symm.trans B.method)
  cases Option.some.inj (h2.symm.trans (Stand.of_body B).code)
  rw [← h6, table_eq]
end Bodies
end VXA
/-! ===== END ===== -/
/-! ===== BEGIN a static call of a method with an exception table ===== -/
section VXS
variable {p : Program} {l : Launch} {e : Env} {R : Room} {s : State} {m : MethodId} {args : Array Value} {below : List Frame} {meth : Method} {c : Code} {T : State} {H : Heap} {locs : List Loc} {cells slots : Nat}
abbrev vx_CSW (R : Room) (s : State) (args : Array Value) (own : String) (index : Nat) (y : MethodName) (bytes : ByteArray) (maxL : Nat) (ret : Option FieldType) (hh : List (Nat × Nat × Nat × Nat)) (ws : List Cond) (rm : Room) (mc ms n : Nat) : Prop :=
  (rm.cells = mc ∧ rm.slots = ms ∧ rm.frames + 1 ≤ R.frames ∧ 8 + (maxL + 11) + rm.locals ≤ R.locals ∧ (∀ w ∈ ws, ∀ (a' : Array Value) (U : State), s.WarmedH U.vm → w.before a' U = true) ∧ Cond.codeWith y bytes maxL ret hh ∈ ws) ∧
  (Cond.codeWith y bytes maxL ret hh).before args s = true ∧ (Cond.initialized y.cls).before args s = true ∧ (y.cls ≠ "java/lang/invoke/MethodHandle" ∧ y.cls ≠ "java/lang/invoke/VarHandle") ∧
  (∀ sig, parseMethodDescriptor y.desc = some sig → n = sig.parameters.length) ∧ (Cond.methodLink own index y).before args s = true ∧ (Cond.static y).before args s = true
theorem vx_cwSW {own : String} {index maxL mc ms : Nat} {y : MethodName} {bytes : ByteArray} {ret : Option FieldType} {hh : List (Nat × Nat × Nat × Nat)} {Ts ws ws' : List Cond} {rm : Room} (n : Nat) (ht : ∀ w ∈ Ts, w.before args s = true) (hT : GoodIn Ts (va_wsS own index y ws)) (hw : ws = Cond.codeWith y bytes maxL ret hh :: ws') (hrc : rm.cells = mc) (hrs : rm.slots = ms)
    (hd : y.cls ≠ "java/lang/invoke/MethodHandle" ∧ y.cls ≠ "java/lang/invoke/VarHandle" ∧ (parseMethodDescriptor y.desc).map (fun d => d.parameters.length) = some n) (hR : rm.frames + 1 ≤ R.frames ∧ 8 + (maxL + 11) + rm.locals ≤ R.locals) :
    vx_CSW R s args own index y bytes maxL ret hh ws rm mc ms n := by
  have ok : ∀ w ∈ va_wsS own index y ws, w.before args s = true := fun w h => ht w (hT w h).1
  have hG : GoodIn Ts ws := fun w h => hT w (by unfold va_wsS; exact List.mem_append_right _ h)
  have hc : Cond.codeWith y bytes maxL ret hh ∈ ws := by rw [hw]; exact List.mem_cons_self
  refine ⟨⟨hrc, hrs, hR.1, hR.2, pay_in ht hG, hc⟩, ht _ (hG _ hc).1, ok _ (by simp [va_wsS]), ⟨hd.1, hd.2.1⟩, fun sig h => ?_, ok _ (by simp [va_wsS]), ok _ (by simp [va_wsS])⟩
  have h2 := hd.2.2
  rw [h] at h2
  exact (Option.some.inj h2).symm
theorem vx_callSW (X : Stand p l e R s m args below meth c T locs cells slots) (hexec : p.tables.exec = Jvm.exec) {own : String} {index : Nat} {y : MethodName} {bytes : ByteArray} {maxL : Nat} {ret : Option FieldType} {hh : List (Nat × Nat × Nat × Nat)}
    (hown : s.vm.findClass own = some m.cls) (hlink : (Cond.methodLink own index y).before args s = true) (hstat : (Cond.static y).before args s = true) (hinit : (Cond.initialized y.cls).before args s = true)
    (hcode : (Cond.codeWith y bytes maxL ret hh).before args s = true) (hy : y.cls ≠ "java/lang/invoke/MethodHandle" ∧ y.cls ≠ "java/lang/invoke/VarHandle")
    {W9 : Nat} {Pre : Pt → Array Value → Prop} {Post : Pt → Array Value → Option Value → Pt → Prop} (hK : Back l R p e below s args y 3 W9 Pre Post)
    {g : JFrame} (hg : g.method = m) (hsize : g.locals.size = c.maxLocals) {argsL rest : List Value} (hlen : ∀ sig, parseMethodDescriptor y.desc = some sig → argsL.length = sig.parameters.length)
    (hstack : g.stack = argsL.reverse ++ rest) (hW : 2 * g.monitorRoom + (rest.map fun v => v.category).sum ≤ W9) (hdg : decode c.code g.pc = .ok (.invokestatic index, 3))
    (hpre : ∀ vm₁, s.WarmedH vm₁ → Pre ⟨T.setVm vm₁, locs, cells, slots⟩ argsL.toArray) :
    ∃ (v : Option Value) (vm₁ : Vm) (B : Pt), s.WarmedH vm₁ ∧ Stand p l e R s m args below meth c B.U B.locs B.cells B.slots ∧ Post ⟨T.setVm vm₁, locs, cells, slots⟩ argsL.toArray v B ∧
      ∀ target, Steps p.tables e below (B.U.setTop { g with pc := g.pc + 3, stack := v.toList ++ rest }) target → Steps p.tables e below (T.setTop g) target := by
  obtain ⟨mk, methM, cM, hnamed, hmethM, -, -, -, -, -, -, hsigM⟩ := Cond.codeWith_spec hcode
  have hstatic : methM.isStatic = true := Cond.static_spec hnamed hmethM hstat
  obtain ⟨kP, hkP, -⟩ := className_of_methodNamed hnamed
  have hinitP : kP.init = .initialized := Cond.initialized_spec (findClass_of_methodNamed hnamed) hkP hinit
  obtain ⟨vm₁, X₁, hstep₁⟩ := X.invokestatic hexec hown hlink hnamed hmethM hstatic hkP hinitP hy (g := g) hg (argsL := argsL) (rest := rest) (hlen _ hsigM) hstack hdg
  obtain ⟨v, B, X', hpost, hsteps⟩ := hK m meth c ⟨T.setVm vm₁, locs, cells, slots⟩ { g with stack := rest } (.invokestatic index) mk argsL.toArray X₁ hg hsize hdg hW (X₁.named hnamed) (hpre vm₁ X₁.warmed)
  exact ⟨v, vm₁, B, X₁.warmed, X', hpost, fun target h => hstep₁ _ fun acts => by rw [doInvoke_state]; exact hsteps.trans h⟩
theorem vx_runSW {y : MethodName} {bytes cc : ByteArray} {maxL nL mc ms n index : Nat} {ret : Option FieldType} {hh : List (Nat × Nat × Nat × Nat)} {ws : List Cond} {rm : Room} {Pc : Array Value → State → Prop} {Qc : Array Value → State → Outcome → State → Prop} {free : Addr → Prop} {Ts : List Cond} {own : String} {As rest : List Value} {g : JFrame}
    (S : CallFix p m c cc nL s args Ts own) (hM : Met l y ws rm Pc Qc mc ms free) (cw : vx_CSW R s args own index y bytes maxL ret hh ws rm mc ms n) (hp : PreS s H Pc As)
    (hg : g.method = m) (hn : As.length = n) (hsize : g.locals.size = nL) (hstack : g.stack = As.reverse ++ rest) (hW : 2 * g.monitorRoom + (rest.map fun v => v.category).sum ≤ 8) (hdg : decode cc g.pc = .ok (.invokestatic index, 3)) (hf : cells + mc ≤ R.cells ∧ slots + ms ≤ R.slots) :
    va_Run p l e R s m args below meth c H locs cells slots mc ms g rest (Qc As.toArray) (free) := by
  obtain ⟨⟨hrc, hrs, hfr, hlo, hws, hcw⟩, hcode, hini, hy, hlen, hl, hstt⟩ := cw
  have hK : Back l R p e below s args y 3 8 (PreOf R mc ms Pc) (PostOf Qc mc ms free) := va_backW (hh := hh) (bytes := bytes) (maxL := maxL) (ret := ret) hM hp.1 hrc hrs hfr hlo hws hcw (fun a' U hW => word_at hW (Or.inl (by first | rfl | simp [Cond.onTables, Cond.keeps, Cond.steady])) hini)
  obtain ⟨hx, hb, hml, ho, -⟩ := S
  intro T hT X
  obtain ⟨v, vm₁, ⟨U', l2, c2, s2⟩, hW₁, X', ⟨g', mk, t, L, e1, e2, hq, h1, hL, h2, h3⟩, st⟩ := vx_callSW X hx (hh := hh) (bytes := bytes) (maxL := maxL) (ret := ret) ho hl hstt hini hcode hy hK hg (hsize.trans hml.symm) (argsL := As) (rest := rest) (fun sig h => hn.trans (hlen sig h)) hstack hW (by rw [hb]; exact hdg)
    (fun vm₁ hW₁ => ⟨hf.1, hf.2, hp.2 (T.setVm vm₁) hT hW₁⟩)
  dsimp only [Pt.U, Pt.locs, Pt.cells, Pt.slots] at X' e1 e2 h1 h2 h3 st
  subst h1; subst h2; subst h3
  exact ⟨v, (T.setVm vm₁).calling g' mk As.toArray, t, U', L, hT, X', hL, e1, e2, hq, st⟩
/-- not caught here, past rows that name other classes: it goes on to the caller -/
theorem vx_outP {p : Program} {l : Launch} {e : Env} {R : Room} {s : State} {m : MethodId} {args : Array Value} {below : List Frame} {meth : Method} {c : Code} {H : Heap} {locs : List Loc} {cells slots : Nat} {free : Addr → Prop} {ls : Array Slot} {rest : List Value} {Qc : Array Value → State → Outcome → State → Prop} {XC : String → State → State → Prop}
    {pc : Nat} {own E : String} {ce : Cell} {q : Addr} {mc ms : Nat} (hown : s.vm.findClass own = some m.cls) (hlocks : meth.locks = false)
    (hpass : ∀ z ∈ c.exceptionTable.toList, covers z pc = false ∨ (z.catchType ≠ 0 ∧ ∃ nm : String, (Cond.classLink own z.catchType nm).before args s = true ∧ va_Nc E nm s)) (hcell : H[q]? = some ce) (hv : ce.vm = .none) (hcl : s.vm.findClass E = some ce.cls)
    (hx : ∀ t : State, t.heap = H → s.vm.Alike t.vm → XC E s t) (hf : ∀ z ∈ locs, free z.base) (hc : cells ≤ mc) (hs : slots ≤ ms) :
    vx_W p l e R s m args below meth c H locs cells slots (vx_MQ below Qc XC args s mc ms free) (F0 m pc ls rest) q := by
  intro T hT X
  have hpl : e.platform.magicAccessors = ({} : Platform).magicAccessors := by rw [X.admits.platform]
  obtain ⟨vm', hW', X', st⟩ := X.outThrough hlocks q (g := F0 m pc ls rest) rfl rfl rfl (cell := ce) (by rw [hT]; exact hcell) (by rw [hv]; rfl)
    (by obtain ⟨k9, h9, -⟩ := Vm.findClass_spec hcl; exact ⟨k9, h9⟩) (fun z hz => by
      rcases hpass z hz with h | ⟨hz0, nm, hl1, hn1⟩
      · exact Or.inl h
      · obtain ⟨c6, hc6, hcl6⟩ := Cond.classLink_spec hown hl1 e.platform hpl
        obtain ⟨a8, b8, h1, h2, h3⟩ := hn1
        cases Option.some.inj (h1.symm.trans hcl)
        cases Option.some.inj (h2.symm.trans hc6)
        exact Or.inr ⟨hz0, _, hcl6, h3⟩)
  obtain ⟨g₀, hfr⟩ := X'.frames_eq
  have hcell9 : ((T.setVm vm').setFrames (.throwing q :: below)).heap[q]? = some ce := by
    show T.heap[q]? = some ce
    rw [hT]; exact hcell
  have hend : Ended ((T.setVm vm').setFrames (.throwing q :: below)) below (.threw q) := State.frames_setFrames _ (State.cur_lt_of_frames hfr)
  refine ⟨(T.setVm vm').setFrames (.throwing q :: below), ?_, .threw q, X'.here.running, hend, Or.inr ⟨q, rfl, E, ce, locs, hx _ hT (X'.ends _).1.alike, hcell9, hv, hcl, (X'.ends _).1, (X'.ends _).2.mono hc hs, hf⟩⟩
  rw [X.pushThrowing_eq]
  exact st
/-- a thing of a world lies in the heap -/
theorem vx_lt {D : va_G} {cl : List vw_C} {ws : va_W} {H1 : Heap} (h : va_P D cl ws H1) {k : Nat} {q : Nat × va_E} (hk : ws[k]? = some q) : q.1 < H1.size := (h k q hk).lt
end VXS
/-! ===== END ===== -/
/-! ===== BEGIN methods with a table of their own: called by a name, returning or throwing ===== -/
section VXH
/-! vx_backW, vx_callVX, vx_callSX, vx_callVW, vx_runVW, vx_runVX, vx_runSX, vx_ofWH follow the same proofs as their sisters above (Free/Laws.lean, Shelf42/LK1.lean); vx_outP calls Shelf42/NT130.lean (outThrough). -/
section
variable {l : Launch} {R : Room} {p : Program} {e : Env} {below : List Frame} {s : State} {sargs : Array Value} {y : MethodName} {len W9 : Nat}
theorem vx_backW {ws : List Cond} {rm : Room} {Pc : Array Value → State → Prop} {Qc : Array Value → State → Outcome → State → Prop} {XC : String → State → State → Prop} {mc ms : Nat} {free : Addr → Prop} {bytes : ByteArray} {maxL : Nat} {ret : Option FieldType} {hh : List (Nat × Nat × Nat × Nat)}
    (hM : vx_Met l y ws rm Pc Qc XC mc ms free) (hblind : FrameBlind Pc) (hrc : rm.cells = mc) (hrs : rm.slots = ms)
    (hframes : rm.frames + 1 ≤ R.frames) (hlocals : W9 + (maxL + 11) + rm.locals ≤ R.locals)
    (hws : ∀ w ∈ ws, ∀ a' U, s.WarmedH U.vm → w.before a' U = true) (hcode : Cond.codeWith y bytes maxL ret hh ∈ ws) (hinit : ∀ a' U, s.WarmedH U.vm → (Cond.initialized y.cls).before a' U = true) :
    vx_Back l R p e below s sargs y len W9 (PreOf R mc ms Pc) (PostOf Qc mc ms free) (vx_Post XC mc ms free) := by
  intro m meth c A g ig mk a X hg hsize hdg hW hn hp
  have h1 : (headSpec ws rm).pre.before a A.U = true := atoms_intro fun w hw => hws w hw _ _ X.warmed
  have h2 : (Cond.codeWith y bytes maxL ret hh).before a A.U = true := hws _ hcode _ _ X.warmed
  have h3 : (Cond.initialized y.cls).before a A.U = true := hinit _ _ X.warmed
  have h4 : A.cells + (headSpec ws rm).room.cells ≤ R.cells := by rw [show (headSpec ws rm).room.cells = mc from hrc]; exact hp.1
  have h5 : A.slots + (headSpec ws rm).room.slots ≤ R.slots := by rw [show (headSpec ws rm).room.slots = ms from hrs]; exact hp.2.1
  have hPc : Pc a (A.U.calling g mk a) := hblind _ _ _ _ hp.2.2
  obtain ⟨U, Ls, c0, s0⟩ := A
  dsimp only [Pt.U, Pt.locs, Pt.cells, Pt.slots] at h1 h2 h3 h4 h5 X hn hPc ⊢
  obtain ⟨m9, methY, cY, hn9, hmY, hcY, -, hlY, -⟩ := Cond.codeWith_spec h2
  cases Option.some.inj (hn9.symm.trans hn)
  obtain ⟨kY, hkY, -⟩ := className_of_methodNamed hn
  have hinitY : kY.init = .initialized := Cond.initialized_spec (findClass_of_methodNamed hn) hkY h3
  have h : At U g.method c below := by rw [hg]; exact X.here
  have hlocals9 : W9 + (maxL + 11) + (headSpec ws rm).room.locals ≤ R.locals := hlocals
  have happ : (headSpec ws rm).appliesLoose y e.platform (U.calling g mk a) = true :=
    Spec.appliesLoose_calling (g := g) h hdg hn hkY hinitY
      (X.room_calling (g := g) (R' := (headSpec ws rm).room) hsize hmY hcY hframes (by rw [hlY]; omega) h4 h5) h1
  obtain ⟨mid, hmid⟩ := h.above
  have hfr : (U.setTop g).frames = (.java g :: mid) ++ below := by rw [State.frames_setTop' g h.top, hmid]; rfl
  obtain ⟨o, s₂, hsteps, -, hend, hq⟩ := Steps.callFree hM p X.admits X.cas X.clock (acts := []) hfr happ hPc trivial
  have hq' : vx_Q Qc XC mc ms free a (U.calling g mk a) o s₂ := hq
  rw [State.frames_setTop' g h.top] at hend
  obtain ⟨g₀, hg0⟩ := Option.isSome_iff_exists.mp h.top
  obtain ⟨r, hr⟩ := State.topJava?_eq_some.mp hg0
  have hr' : (({ U with heap := s₂.heap, slotsUsed := s₂.slotsUsed } : State).setVm s₂.vm).frames = .java g₀ :: r := hr
  rcases hq' with ⟨hqc, L, hfe, hL⟩ | ⟨q, rfl, E, ce, L, hx, hce, hcv, hcl, hW₂, hsm, hL⟩
  · obtain ⟨⟨v, rfl⟩, hW₂, e2, q2, q3, q4, q5, q6⟩ := id hfe
    have e3 : s₂ = ({ (U.calling g mk a).setFrames s₂.frames with heap := s₂.heap, slotsUsed := s₂.slotsUsed } : State).setVm s₂.vm := by
      have : s₂ = ({ s₂ with vm := (U.calling g mk a).vm } : State).setVm s₂.vm := rfl
      rw [e2] at this
      exact this
    obtain ⟨c₂, i₂, len₂, hc₂, hd₂, hf₂⟩ := hend
    have hW' : U.WarmedH s₂.vm := hW₂
    have hcc : c₂ = c := by
      have h1 : s₂.code? g.method = U.code? g.method := by
        rw [State.code?_eq, State.code?_eq, hW'.alike.method?]
      exact Option.some.inj (hc₂.symm.trans (h1.trans h.code))
    subst hcc
    have hlen : len₂ = len := by rw [hdg] at hd₂; cases hd₂; rfl
    subst hlen
    have hs₂ : s₂ = (({ U with heap := s₂.heap, slotsUsed := s₂.slotsUsed } : State).setVm s₂.vm).setTop { g with pc := g.pc + len₂, stack := v.toList ++ g.stack } := by
      refine e3.trans ?_
      rw [hf₂, State.calling_eq h.top, State.setFrames_setFrames, State.setTop_of_frames _ hr', hr]
      rfl
    have hsame : U.sameButNew ({ U with heap := s₂.heap, slotsUsed := s₂.slotsUsed } : State) L mc ms := by
      refine ⟨?_, q2, q3, q4, q5, q6⟩
      obtain ⟨t, ht, -⟩ := State.frames_cons hr
      show ({ U with heap := s₂.heap, slotsUsed := s₂.slotsUsed } : State) = { U.setFrames U.frames with heap := s₂.heap, slotsUsed := s₂.slotsUsed }
      rw [State.setFrames_self ht]
    subst hg
    refine Or.inl ⟨v, ⟨(({ U with heap := s₂.heap, slotsUsed := s₂.slotsUsed } : State).setVm s₂.vm), Ls ++ L, c0 + mc, s0 + ms⟩,
      ⟨X.admits, X.cas, X.clock, X.frames, X.room, X.hears, X.method, X.code, (X.here.setHeapUsed s₂.heap s₂.slotsUsed).setVm hW'.alike, X.tail, State.WarmedH.trans X.warmed hW', X.limits, X.bytes, X.same.trans (hsame.setVm s.vm)⟩,
      ⟨g, mk, s₂, L, rfl, rfl, hqc, rfl, hL, rfl, rfl⟩, ?_⟩
    show Steps p.tables e below _ ((({ U with heap := s₂.heap, slotsUsed := s₂.slotsUsed } : State).setVm s₂.vm).setTop { g with pc := g.pc + len₂, stack := v.toList ++ g.stack })
    rw [← hs₂]
    exact hsteps
  · obtain ⟨e2, q2, q3, q4, q5, q6⟩ := id hsm
    have e3 : s₂ = ({ (U.calling g mk a).setFrames s₂.frames with heap := s₂.heap, slotsUsed := s₂.slotsUsed } : State).setVm s₂.vm := by
      have : s₂ = ({ s₂ with vm := (U.calling g mk a).vm } : State).setVm s₂.vm := rfl
      rw [e2] at this
      exact this
    have hf₂ : s₂.frames = .throwing q :: .java g :: U.frames.tail := hend
    have hW' : U.WarmedH s₂.vm := hW₂
    have hs₂ : s₂ = ((({ U with heap := s₂.heap, slotsUsed := s₂.slotsUsed } : State).setVm s₂.vm).setTop g).pushFrame (.throwing q) := by
      refine e3.trans ?_
      rw [hf₂, State.calling_eq h.top, State.setFrames_setFrames, State.pushFrame, State.frames_setTop _ hr', State.setTop_of_frames _ hr', State.setFrames_setFrames, hr]
      rfl
    have hsame : U.sameButNew ({ U with heap := s₂.heap, slotsUsed := s₂.slotsUsed } : State) L mc ms := by
      refine ⟨?_, q2, q3, q4, q5, q6⟩
      obtain ⟨t, ht, -⟩ := State.frames_cons hr
      show ({ U with heap := s₂.heap, slotsUsed := s₂.slotsUsed } : State) = { U.setFrames U.frames with heap := s₂.heap, slotsUsed := s₂.slotsUsed }
      rw [State.setFrames_self ht]
    subst hg
    refine Or.inr ⟨q, ⟨(({ U with heap := s₂.heap, slotsUsed := s₂.slotsUsed } : State).setVm s₂.vm), Ls ++ L, c0 + mc, s0 + ms⟩,
      ⟨X.admits, X.cas, X.clock, X.frames, X.room, X.hears, X.method, X.code, (X.here.setHeapUsed s₂.heap s₂.slotsUsed).setVm hW'.alike, X.tail, State.WarmedH.trans X.warmed hW', X.limits, X.bytes, X.same.trans (hsame.setVm s.vm)⟩,
      ⟨g, mk, s₂, L, E, ce, rfl, rfl, hx, hce, hcv, hcl, rfl, hL, rfl, rfl⟩, ?_⟩
    show Steps p.tables e below _ (((({ U with heap := s₂.heap, slotsUsed := s₂.slotsUsed } : State).setVm s₂.vm).setTop g).pushFrame (.throwing q))
    rw [← hs₂]
    exact hsteps
end
variable {p : Program} {l : Launch} {e : Env} {R : Room} {s : State} {m : MethodId} {args : Array Value} {below : List Frame} {meth : Method} {c : Code} {T : State} {H : Heap} {locs : List Loc} {cells slots : Nat}
theorem vx_callVX (X : Stand p l e R s m args below meth c T locs cells slots) (hexec : p.tables.exec = Jvm.exec) {own C : String} {index : Nat} {y : MethodName} {bytes : ByteArray} {maxL : Nat} {ret : Option FieldType} {hh : List (Nat × Nat × Nat × Nat)}
    (hown : s.vm.findClass own = some m.cls) (hlink : (Cond.methodLink own index y).before args s = true) (hinst : (Cond.instanceMethod y).before args s = true) (hsel : (Cond.selects C y y).before args s = true)
    (hcode : (Cond.codeWith y bytes maxL ret hh).before args s = true) (hy : y.cls ≠ "java/lang/invoke/MethodHandle" ∧ y.cls ≠ "java/lang/invoke/VarHandle")
    {W9 : Nat} {Pre : Pt → Array Value → Prop} {Post : Pt → Array Value → Option Value → Pt → Prop} {PostX : Pt → Array Value → Addr → Pt → Prop} (hK : vx_Back l R p e below s args y 3 W9 Pre Post PostX)
    {b : Addr} {cellB : Cell} (hcell : T.heap[b]? = some cellB) (hobj : cellB.vm.isStatics = false) (hcls : s.vm.findClass C = some cellB.cls)
    {g : JFrame} (hg : g.method = m) (hsize : g.locals.size = c.maxLocals) {argsL rest : List Value} (hlen : ∀ sig, parseMethodDescriptor y.desc = some sig → argsL.length = sig.parameters.length)
    (hstack : g.stack = argsL.reverse ++ .ref b :: rest) (hW : 2 * g.monitorRoom + (rest.map fun v => v.category).sum ≤ W9) (hdg : decode c.code g.pc = .ok (.invokevirtual index, 3))
    (hpre : ∀ vm₁, s.WarmedH vm₁ → Pre ⟨T.setVm vm₁, locs, cells, slots⟩ (Value.ref b :: argsL).toArray) :
    (∃ (v : Option Value) (vm₁ : Vm) (B : Pt), s.WarmedH vm₁ ∧ Stand p l e R s m args below meth c B.U B.locs B.cells B.slots ∧ Post ⟨T.setVm vm₁, locs, cells, slots⟩ (Value.ref b :: argsL).toArray v B ∧
      ∀ target, Steps p.tables e below (B.U.setTop { g with pc := g.pc + 3, stack := v.toList ++ rest }) target → Steps p.tables e below (T.setTop g) target) ∨
    (∃ (q : Addr) (vm₁ : Vm) (B : Pt), s.WarmedH vm₁ ∧ Stand p l e R s m args below meth c B.U B.locs B.cells B.slots ∧ PostX ⟨T.setVm vm₁, locs, cells, slots⟩ (Value.ref b :: argsL).toArray q B ∧
      Steps p.tables e below (T.setTop g) ((B.U.setTop { g with stack := rest }).pushFrame (.throwing q))) := by
  obtain ⟨mk, methM, hnamed, hmethM, hstM, habM⟩ := Cond.instanceMethod_spec hinst
  obtain ⟨m8, methM', cM, hn8, hmethM', -, -, -, -, -, -, hsigM⟩ := Cond.codeWith_spec hcode
  cases Option.some.inj (hn8.symm.trans hnamed)
  cases hmethM.symm.trans hmethM'
  obtain ⟨c2, r2, m2, q1, q2, q3, q4, kP, hkP, hkPi⟩ := Cond.selects_spec hsel
  cases hcls.symm.trans q1
  cases (State.methodFound?_of_named hnamed hy).symm.trans q2
  cases hnamed.symm.trans q3
  have hselP : selectMethod e.platform s.vm cellB.cls mk = .method mk := by rw [Launch.admits_selectMethod X.admits]; exact q4
  obtain ⟨vm₁, X₁, hstep₁⟩ := X.invokevirtual hexec hown hlink hnamed hmethM hstM hkP hkPi hy (a := b) (cell := cellB) hcell
    (fun z h => by rw [h] at hobj; cases hobj) hselP hmethM habM hkP hkPi (g := g) hg (argsL := argsL) (rest := rest) (hlen _ hsigM) hstack hdg
  rcases hK m meth c ⟨T.setVm vm₁, locs, cells, slots⟩ { g with stack := rest } (.invokevirtual index) mk (Value.ref b :: argsL).toArray X₁ hg hsize hdg hW (X₁.named hnamed) (hpre vm₁ X₁.warmed) with ⟨v, B, X', hpost, hsteps⟩ | ⟨q, B, X', hpost, hsteps⟩
  · exact Or.inl ⟨v, vm₁, B, X₁.warmed, X', hpost, fun target h => hstep₁ _ fun acts => by rw [doInvoke_state]; exact hsteps.trans h⟩
  · exact Or.inr ⟨q, vm₁, B, X₁.warmed, X', hpost, hstep₁ _ fun acts => by rw [doInvoke_state]; exact hsteps⟩
theorem vx_callSX (X : Stand p l e R s m args below meth c T locs cells slots) (hexec : p.tables.exec = Jvm.exec) {own : String} {index : Nat} {y : MethodName} {bytes : ByteArray} {maxL : Nat} {ret : Option FieldType} {hh : List (Nat × Nat × Nat × Nat)}
    (hown : s.vm.findClass own = some m.cls) (hlink : (Cond.methodLink own index y).before args s = true) (hstat : (Cond.static y).before args s = true) (hinit : (Cond.initialized y.cls).before args s = true)
    (hcode : (Cond.codeWith y bytes maxL ret hh).before args s = true) (hy : y.cls ≠ "java/lang/invoke/MethodHandle" ∧ y.cls ≠ "java/lang/invoke/VarHandle")
    {W9 : Nat} {Pre : Pt → Array Value → Prop} {Post : Pt → Array Value → Option Value → Pt → Prop} {PostX : Pt → Array Value → Addr → Pt → Prop} (hK : vx_Back l R p e below s args y 3 W9 Pre Post PostX)
    {g : JFrame} (hg : g.method = m) (hsize : g.locals.size = c.maxLocals) {argsL rest : List Value} (hlen : ∀ sig, parseMethodDescriptor y.desc = some sig → argsL.length = sig.parameters.length)
    (hstack : g.stack = argsL.reverse ++ rest) (hW : 2 * g.monitorRoom + (rest.map fun v => v.category).sum ≤ W9) (hdg : decode c.code g.pc = .ok (.invokestatic index, 3))
    (hpre : ∀ vm₁, s.WarmedH vm₁ → Pre ⟨T.setVm vm₁, locs, cells, slots⟩ argsL.toArray) :
    (∃ (v : Option Value) (vm₁ : Vm) (B : Pt), s.WarmedH vm₁ ∧ Stand p l e R s m args below meth c B.U B.locs B.cells B.slots ∧ Post ⟨T.setVm vm₁, locs, cells, slots⟩ argsL.toArray v B ∧
      ∀ target, Steps p.tables e below (B.U.setTop { g with pc := g.pc + 3, stack := v.toList ++ rest }) target → Steps p.tables e below (T.setTop g) target) ∨
    (∃ (q : Addr) (vm₁ : Vm) (B : Pt), s.WarmedH vm₁ ∧ Stand p l e R s m args below meth c B.U B.locs B.cells B.slots ∧ PostX ⟨T.setVm vm₁, locs, cells, slots⟩ argsL.toArray q B ∧
      Steps p.tables e below (T.setTop g) ((B.U.setTop { g with stack := rest }).pushFrame (.throwing q))) := by
  obtain ⟨mk, methM, cM, hnamed, hmethM, -, -, -, -, -, -, hsigM⟩ := Cond.codeWith_spec hcode
  have hstatic : methM.isStatic = true := Cond.static_spec hnamed hmethM hstat
  obtain ⟨kP, hkP, -⟩ := className_of_methodNamed hnamed
  have hinitP : kP.init = .initialized := Cond.initialized_spec (findClass_of_methodNamed hnamed) hkP hinit
  obtain ⟨vm₁, X₁, hstep₁⟩ := X.invokestatic hexec hown hlink hnamed hmethM hstatic hkP hinitP hy (g := g) hg (argsL := argsL) (rest := rest) (hlen _ hsigM) hstack hdg
  rcases hK m meth c ⟨T.setVm vm₁, locs, cells, slots⟩ { g with stack := rest } (.invokestatic index) mk argsL.toArray X₁ hg hsize hdg hW (X₁.named hnamed) (hpre vm₁ X₁.warmed) with ⟨v, B, X', hpost, hsteps⟩ | ⟨q, B, X', hpost, hsteps⟩
  · exact Or.inl ⟨v, vm₁, B, X₁.warmed, X', hpost, fun target h => hstep₁ _ fun acts => by rw [doInvoke_state]; exact hsteps.trans h⟩
  · exact Or.inr ⟨q, vm₁, B, X₁.warmed, X', hpost, hstep₁ _ fun acts => by rw [doInvoke_state]; exact hsteps⟩
theorem vx_callVW (X : Stand p l e R s m args below meth c T locs cells slots) (hexec : p.tables.exec = Jvm.exec) {own C : String} {index : Nat} {y : MethodName} {bytes : ByteArray} {maxL : Nat} {ret : Option FieldType} {hh : List (Nat × Nat × Nat × Nat)}
    (hown : s.vm.findClass own = some m.cls) (hlink : (Cond.methodLink own index y).before args s = true) (hinst : (Cond.instanceMethod y).before args s = true) (hsel : (Cond.selects C y y).before args s = true)
    (hcode : (Cond.codeWith y bytes maxL ret hh).before args s = true) (hy : y.cls ≠ "java/lang/invoke/MethodHandle" ∧ y.cls ≠ "java/lang/invoke/VarHandle")
    {W9 : Nat} {Pre : Pt → Array Value → Prop} {Post : Pt → Array Value → Option Value → Pt → Prop} (hK : Back l R p e below s args y 3 W9 Pre Post)
    {b : Addr} {cellB : Cell} (hcell : T.heap[b]? = some cellB) (hobj : cellB.vm.isStatics = false) (hcls : s.vm.findClass C = some cellB.cls)
    {g : JFrame} (hg : g.method = m) (hsize : g.locals.size = c.maxLocals) {argsL rest : List Value} (hlen : ∀ sig, parseMethodDescriptor y.desc = some sig → argsL.length = sig.parameters.length)
    (hstack : g.stack = argsL.reverse ++ .ref b :: rest) (hW : 2 * g.monitorRoom + (rest.map fun v => v.category).sum ≤ W9) (hdg : decode c.code g.pc = .ok (.invokevirtual index, 3))
    (hpre : ∀ vm₁, s.WarmedH vm₁ → Pre ⟨T.setVm vm₁, locs, cells, slots⟩ (Value.ref b :: argsL).toArray) :
    ∃ (v : Option Value) (vm₁ : Vm) (B : Pt), s.WarmedH vm₁ ∧ Stand p l e R s m args below meth c B.U B.locs B.cells B.slots ∧ Post ⟨T.setVm vm₁, locs, cells, slots⟩ (Value.ref b :: argsL).toArray v B ∧
      ∀ target, Steps p.tables e below (B.U.setTop { g with pc := g.pc + 3, stack := v.toList ++ rest }) target → Steps p.tables e below (T.setTop g) target := by
  obtain ⟨mk, methM, hnamed, hmethM, hstM, habM⟩ := Cond.instanceMethod_spec hinst
  obtain ⟨m8, methM', cM, hn8, hmethM', -, -, -, -, -, -, hsigM⟩ := Cond.codeWith_spec hcode
  cases Option.some.inj (hn8.symm.trans hnamed)
  cases hmethM.symm.trans hmethM'
  obtain ⟨c2, r2, m2, q1, q2, q3, q4, kP, hkP, hkPi⟩ := Cond.selects_spec hsel
  cases hcls.symm.trans q1
  cases (State.methodFound?_of_named hnamed hy).symm.trans q2
  cases hnamed.symm.trans q3
  have hselP : selectMethod e.platform s.vm cellB.cls mk = .method mk := by rw [Launch.admits_selectMethod X.admits]; exact q4
  obtain ⟨vm₁, X₁, hstep₁⟩ := X.invokevirtual hexec hown hlink hnamed hmethM hstM hkP hkPi hy (a := b) (cell := cellB) hcell
    (fun z h => by rw [h] at hobj; cases hobj) hselP hmethM habM hkP hkPi (g := g) hg (argsL := argsL) (rest := rest) (hlen _ hsigM) hstack hdg
  obtain ⟨v, B, X', hpost, hsteps⟩ := hK m meth c ⟨T.setVm vm₁, locs, cells, slots⟩ { g with stack := rest } (.invokevirtual index) mk (Value.ref b :: argsL).toArray X₁ hg hsize hdg hW (X₁.named hnamed) (hpre vm₁ X₁.warmed)
  exact ⟨v, vm₁, B, X₁.warmed, X', hpost, fun target h => hstep₁ _ fun acts => by rw [doInvoke_state]; exact hsteps.trans h⟩
abbrev vx_CVW (R : Room) (s : State) (args : Array Value) (own C : String) (index : Nat) (y : MethodName) (bytes : ByteArray) (maxL : Nat) (ret : Option FieldType) (hh : List (Nat × Nat × Nat × Nat)) (ws : List Cond) (rm : Room) (mc ms n : Nat) : Prop :=
  (rm.cells = mc ∧ rm.slots = ms ∧ rm.frames + 1 ≤ R.frames ∧ 8 + (maxL + 11) + rm.locals ≤ R.locals ∧ (∀ w ∈ ws, ∀ (a' : Array Value) (U : State), s.WarmedH U.vm → w.before a' U = true) ∧ Cond.codeWith y bytes maxL ret hh ∈ ws) ∧
  (Cond.codeWith y bytes maxL ret hh).before args s = true ∧ (Cond.initialized y.cls).before args s = true ∧ (y.cls ≠ "java/lang/invoke/MethodHandle" ∧ y.cls ≠ "java/lang/invoke/VarHandle") ∧
  (∀ sig, parseMethodDescriptor y.desc = some sig → n = sig.parameters.length) ∧ (Cond.methodLink own index y).before args s = true ∧ (Cond.instanceMethod y).before args s = true ∧ (Cond.selects C y y).before args s = true
theorem vx_cwVW {own C : String} {index maxL mc ms : Nat} {y : MethodName} {bytes : ByteArray} {ret : Option FieldType} {hh : List (Nat × Nat × Nat × Nat)} {Ts ws ws' : List Cond} {rm : Room} (n : Nat) (ht : ∀ w ∈ Ts, w.before args s = true) (hT : GoodIn Ts (wsV own index C y ws)) (hw : ws = Cond.codeWith y bytes maxL ret hh :: ws') (hrc : rm.cells = mc) (hrs : rm.slots = ms)
    (hd : y.cls = C ∧ y.cls ≠ "java/lang/invoke/MethodHandle" ∧ y.cls ≠ "java/lang/invoke/VarHandle" ∧ (parseMethodDescriptor y.desc).map (fun d => d.parameters.length) = some n) (hR : rm.frames + 1 ≤ R.frames ∧ 8 + (maxL + 11) + rm.locals ≤ R.locals) :
    vx_CVW R s args own C index y bytes maxL ret hh ws rm mc ms n := by
  obtain ⟨hC, hd⟩ := hd
  subst hC
  have ok : ∀ w ∈ wsV own index y.cls y ws, w.before args s = true := fun w h => ht w (hT w h).1
  have hG : GoodIn Ts ws := fun w h => hT w (by unfold wsV; exact List.mem_append_right _ h)
  have hc : Cond.codeWith y bytes maxL ret hh ∈ ws := by rw [hw]; exact List.mem_cons_self
  refine ⟨⟨hrc, hrs, hR.1, hR.2, pay_in ht hG, hc⟩, ht _ (hG _ hc).1, ok _ (by simp [wsV]), ⟨hd.1, hd.2.1⟩, fun sig h => ?_, ok _ (by simp [wsV]), ok _ (by simp [wsV]), ok _ (by simp [wsV])⟩
  have h2 := hd.2.2
  rw [h] at h2
  exact (Option.some.inj h2).symm
theorem vx_runVW {y : MethodName} {bytes cc : ByteArray} {maxL nL mc ms n index : Nat} {ret : Option FieldType} {hh : List (Nat × Nat × Nat × Nat)} {ws : List Cond} {rm : Room} {Pc : Array Value → State → Prop} {Qc : Array Value → State → Outcome → State → Prop} {free : Addr → Prop} {Ts : List Cond} {own C : String} {b : Addr} {As rest : List Value} {g : JFrame}
    (S : CallFix p m c cc nL s args Ts own) (hM : Met l y ws rm Pc Qc mc ms free) (cw : vx_CVW R s args own C index y bytes maxL ret hh ws rm mc ms n) (hp : PreV s H C b Pc As)
    (hg : g.method = m) (hn : As.length = n) (hsize : g.locals.size = nL) (hstack : g.stack = As.reverse ++ .ref b :: rest) (hW : 2 * g.monitorRoom + (rest.map fun v => v.category).sum ≤ 8) (hdg : decode cc g.pc = .ok (.invokevirtual index, 3)) (hf : cells + mc ≤ R.cells ∧ slots + ms ≤ R.slots) :
    va_Run p l e R s m args below meth c H locs cells slots mc ms g rest (Qc (Value.ref b :: As).toArray) free := by
  obtain ⟨⟨hrc, hrs, hfr, hlo, hws, hcw⟩, hcode, hini, hy, hlen, hl, hin, hse⟩ := cw
  have hK : Back l R p e below s args y 3 8 (PreOf R mc ms Pc) (PostOf Qc mc ms free) := va_backW (hh := hh) (bytes := bytes) (maxL := maxL) (ret := ret) hM hp.1 hrc hrs hfr hlo hws hcw (fun a' U hW => word_at hW (Or.inl (by first | rfl | simp [Cond.onTables, Cond.keeps, Cond.steady])) hini)
  obtain ⟨hx, hb, hml, ho, -⟩ := S
  obtain ⟨-, ⟨cellB, hcB, hoB, hclB⟩, hPc⟩ := hp
  intro T hT X
  obtain ⟨v, vm₁, ⟨U', l2, c2, s2⟩, hW₁, X', ⟨g', mk, t, L, e1, e2, hq, h1, hL, h2, h3⟩, st⟩ := vx_callVW X hx (C := C) (hh := hh) (bytes := bytes) (maxL := maxL) (ret := ret) ho hl hin hse hcode hy hK (by rw [hT]; exact hcB) hoB hclB hg (hsize.trans hml.symm) (argsL := As) (rest := rest) (fun sig h => hn.trans (hlen sig h)) hstack hW (by rw [hb]; exact hdg)
    (fun vm₁ hW₁ => ⟨hf.1, hf.2, hPc (T.setVm vm₁) hT hW₁⟩)
  dsimp only [Pt.U, Pt.locs, Pt.cells, Pt.slots] at X' e1 e2 h1 h2 h3 st
  subst h1; subst h2; subst h3
  exact ⟨v, (T.setVm vm₁).calling g' mk (Value.ref b :: As).toArray, t, U', L, hT, X', hL, e1, e2, hq, st⟩
section
variable {y : MethodName} {bytes cc : ByteArray} {maxL nL mc ms n index : Nat} {ret : Option FieldType} {ws : List Cond} {rm : Room} {Pc : Array Value → State → Prop} {Qc : Array Value → State → Outcome → State → Prop} {XC : String → State → State → Prop} {free : Addr → Prop} {Ts : List Cond} {own C : String} {b : Addr} {As rest : List Value} {g : JFrame}
theorem vx_runVX {hh : List (Nat × Nat × Nat × Nat)} (S : CallFix p m c cc nL s args Ts own) (hM : vx_Met l y ws rm Pc Qc XC mc ms free) (cw : vx_CVW R s args own C index y bytes maxL ret hh ws rm mc ms n) (hp : PreV s H C b Pc As)
    (hg : g.method = m) (hn : As.length = n) (hsize : g.locals.size = nL) (hstack : g.stack = As.reverse ++ .ref b :: rest) (hW : 2 * g.monitorRoom + (rest.map fun v => v.category).sum ≤ 8) (hdg : decode cc g.pc = .ok (.invokevirtual index, 3)) (hf : cells + mc ≤ R.cells ∧ slots + ms ≤ R.slots) :
    vx_Run p l e R s m args below meth c H locs cells slots mc ms g rest (Qc (Value.ref b :: As).toArray) XC free := by
  obtain ⟨⟨hrc, hrs, hfr, hlo, hws, hcw⟩, hcode, hini, hy, hlen, hl, hin, hse⟩ := cw
  have hK : vx_Back l R p e below s args y 3 8 (PreOf R mc ms Pc) (PostOf Qc mc ms free) (vx_Post XC mc ms free) := vx_backW (hh := hh) (bytes := bytes) (maxL := maxL) (ret := ret) hM hp.1 hrc hrs hfr hlo hws hcw (fun a' U hW => word_at hW (Or.inl (by first | rfl | simp [Cond.onTables, Cond.keeps, Cond.steady])) hini)
  obtain ⟨hx, hb, hml, ho, -⟩ := S
  obtain ⟨-, ⟨cellB, hcB, hoB, hclB⟩, hPc⟩ := hp
  intro T hT X
  rcases vx_callVX X hx (C := C) (hh := hh) (bytes := bytes) (maxL := maxL) (ret := ret) ho hl hin hse hcode hy hK (by rw [hT]; exact hcB) hoB hclB hg (hsize.trans hml.symm) (argsL := As) (rest := rest) (fun sig h => hn.trans (hlen sig h)) hstack hW (by rw [hb]; exact hdg)
    (fun vm₁ hW₁ => ⟨hf.1, hf.2, hPc (T.setVm vm₁) hT hW₁⟩) with ⟨v, vm₁, ⟨U', l2, c2, s2⟩, hW₁, X', ⟨g', mk, t, L, e1, e2, hq, h1, hL, h2, h3⟩, st⟩ | ⟨q, vm₁, ⟨U', l2, c2, s2⟩, hW₁, X', ⟨g', mk, t, L, E, ce, e1, e2, hq, hce, hcv, hcl, h1, hL, h2, h3⟩, st⟩
  · dsimp only [Pt.U, Pt.locs, Pt.cells, Pt.slots] at X' e1 e2 h1 h2 h3 st
    subst h1; subst h2; subst h3
    exact Or.inl ⟨v, (T.setVm vm₁).calling g' mk (Value.ref b :: As).toArray, t, U', L, hT, X', hL, e1, e2, hq, st⟩
  · dsimp only [Pt.U, Pt.locs, Pt.cells, Pt.slots] at X' e1 e2 h1 h2 h3 st hcl
    subst h1; subst h2; subst h3
    exact Or.inr ⟨q, (T.setVm vm₁).calling g' mk (Value.ref b :: As).toArray, t, U', L, E, ce, hT, X', hL, e1, e2, hq, hce, hcv, vx_cls hW₁ hcl, st⟩
theorem vx_runSX {hh : List (Nat × Nat × Nat × Nat)} (S : CallFix p m c cc nL s args Ts own) (hM : vx_Met l y ws rm Pc Qc XC mc ms free) (cw : vx_CSW R s args own index y bytes maxL ret hh ws rm mc ms n) (hp : PreS s H Pc As)
    (hg : g.method = m) (hn : As.length = n) (hsize : g.locals.size = nL) (hstack : g.stack = As.reverse ++ rest) (hW : 2 * g.monitorRoom + (rest.map fun v => v.category).sum ≤ 8) (hdg : decode cc g.pc = .ok (.invokestatic index, 3)) (hf : cells + mc ≤ R.cells ∧ slots + ms ≤ R.slots) :
    vx_Run p l e R s m args below meth c H locs cells slots mc ms g rest (Qc As.toArray) XC free := by
  obtain ⟨⟨hrc, hrs, hfr, hlo, hws, hcw⟩, hcode, hini, hy, hlen, hl, hstt⟩ := cw
  have hK : vx_Back l R p e below s args y 3 8 (PreOf R mc ms Pc) (PostOf Qc mc ms free) (vx_Post XC mc ms free) := vx_backW (hh := hh) (bytes := bytes) (maxL := maxL) (ret := ret) hM hp.1 hrc hrs hfr hlo hws hcw (fun a' U hW => word_at hW (Or.inl (by first | rfl | simp [Cond.onTables, Cond.keeps, Cond.steady])) hini)
  obtain ⟨hx, hb, hml, ho, -⟩ := S
  intro T hT X
  rcases vx_callSX X hx (hh := hh) (bytes := bytes) (maxL := maxL) (ret := ret) ho hl hstt hini hcode hy hK hg (hsize.trans hml.symm) (argsL := As) (rest := rest) (fun sig h => hn.trans (hlen sig h)) hstack hW (by rw [hb]; exact hdg)
    (fun vm₁ hW₁ => ⟨hf.1, hf.2, hp.2 (T.setVm vm₁) hT hW₁⟩) with ⟨v, vm₁, ⟨U', l2, c2, s2⟩, hW₁, X', ⟨g', mk, t, L, e1, e2, hq, h1, hL, h2, h3⟩, st⟩ | ⟨q, vm₁, ⟨U', l2, c2, s2⟩, hW₁, X', ⟨g', mk, t, L, E, ce, e1, e2, hq, hce, hcv, hcl, h1, hL, h2, h3⟩, st⟩
  · dsimp only [Pt.U, Pt.locs, Pt.cells, Pt.slots] at X' e1 e2 h1 h2 h3 st
    subst h1; subst h2; subst h3
    exact Or.inl ⟨v, (T.setVm vm₁).calling g' mk As.toArray, t, U', L, hT, X', hL, e1, e2, hq, st⟩
  · dsimp only [Pt.U, Pt.locs, Pt.cells, Pt.slots] at X' e1 e2 h1 h2 h3 st hcl
    subst h1; subst h2; subst h3
    exact Or.inr ⟨q, (T.setVm vm₁).calling g' mk As.toArray, t, U', L, E, ce, hT, X', hL, e1, e2, hq, hce, hcv, vx_cls hW₁ hcl, st⟩
end
end VXH
theorem vx_ofWH {l : Launch} {y : MethodName} {ws ws' : List Cond} {rm : Room} {Pc : Array Value → State → Prop} {Qc : Array Value → State → Outcome → State → Prop} {XC : String → State → State → Prop} {mc ms : Nat} {free : Addr → Prop} {cc : ByteArray} {maxL : Nat} {ret : Option FieldType} {hh : List (Nat × Nat × Nat × Nat)}
    (hy : plainName y.cls = true) (hw : ws = Cond.codeWith y cc maxL ret hh :: ws')
    (body : ∀ p e s m args below meth c s₁, BodyLoose p l y (headSpec ws rm) cc maxL ret e s m args below meth c s₁ → c.maxLocals = maxL → Pc args s →
      W p l e (headSpec ws rm).room s m args below meth c s.heap [] 0 0 (vx_MQ below Qc XC args s mc ms free) (entryFrame m args maxL)) : vx_Met l y ws rm Pc Qc XC mc ms free := by
  refine MetFree.of_bodyS (code := cc) (maxLocals := maxL) (ret := ret) hy ?_ ?_
  · intro args s m h hn
    obtain ⟨m9, meth, c, hn9, h1, h2, h3, h4, -, h5, h6, -⟩ := Cond.codeWith_spec (atoms_spec (ws := ws) h _ (by rw [hw]; exact List.mem_cons_self))
    cases hn.symm.trans hn9
    exact ⟨meth, c, h1, h2, h3, h4, h5, h6⟩
  · intro p e s m args below meth c s₁ B hml hP _
    have hh0 : s₁.heap = s.heap := by rw [B.state]; rfl
    obtain ⟨t, a1, o, b1, b2, b3⟩ := body p e s m args below meth c s₁ B hml hP s₁ hh0 (Stand.of_body B)
    exact ⟨t, o, a1, b1, b2, b3⟩
/-! ===== END ===== -/
end
section
/-! ===== BEGIN printed: names, fields, word lists, decode rows ===== -/
def RX0 : String := "MeetingOrders$OrderText"
def TX0 : u_T := fun k => match k with
  | 0 => ("MeetingOrders$OrderText", "bytes", "LMeetingOrders$Row;", true)
  | 1 => ("MeetingOrders$OrderText", "kinds", "LMeetingOrders$Row;", true)
  | 2 => ("MeetingOrders$OrderText", "numbers", "LMeetingOrders$Row;", true)
  | 3 => ("MeetingOrders$OrderText", "weeks", "LMeetingOrders$Row;", true)
  | 4 => ("MeetingOrders$OrderText", "hours", "LMeetingOrders$Row;", true)
  | 5 => ("MeetingOrders$OrderText", "length", "I", false)
  | 6 => ("MeetingOrders$OrderText", "count", "I", false)
  | _ => ("MeetingOrders$OrderText", "place", "I", false)
def tyX0 : Nat → FieldType := fun k => match k with
  | 0 => .object "MeetingOrders$Row"
  | 1 => .object "MeetingOrders$Row"
  | 2 => .object "MeetingOrders$Row"
  | 3 => .object "MeetingOrders$Row"
  | 4 => .object "MeetingOrders$Row"
  | 5 => .int
  | 6 => .int
  | _ => .int
abbrev wsX00 : List Cond := u_ws RX0 TX0 8
theorem nmX0 : ∀ a, a < 8 → ∀ b, b < 8 → a ≠ b → (TX0 a).2.1 ≠ (TX0 b).2.1 := by decide +kernel
theorem tyX0_ok : ∀ k, k < 8 → parseFieldDescriptor (TX0 k).2.2.1 = some (tyX0 k) := by decide +kernel
abbrev cX0_init : ByteArray := prog_2_method_1_code
def yX0_init : MethodName := ⟨RX0, "<init>", "()V"⟩
abbrev cX0_addByte : ByteArray := prog_2_method_2_code
def yX0_addByte : MethodName := ⟨RX0, "addByte", "(I)I"⟩
abbrev cX0_readAll : ByteArray := prog_2_method_3_code
def yX0_readAll : MethodName := ⟨RX0, "readAll", "()I"⟩
abbrev cX0_readOrder : ByteArray := prog_2_method_4_code
def yX0_readOrder : MethodName := ⟨RX0, "readOrder", "()Z"⟩
abbrev cX0_readSign : ByteArray := prog_2_method_5_code
def yX0_readSign : MethodName := ⟨RX0, "readSign", "(I)Z"⟩
abbrev cX0_readDigit : ByteArray := prog_2_method_6_code
def yX0_readDigit : MethodName := ⟨RX0, "readDigit", "(ILMeetingOrders$Row;)Z"⟩
abbrev cX0_readNumber : ByteArray := prog_2_method_7_code
def yX0_readNumber : MethodName := ⟨RX0, "readNumber", "(ILMeetingOrders$Row;)Z"⟩
abbrev cX0_isDigitHere : ByteArray := prog_2_method_8_code
def yX0_isDigitHere : MethodName := ⟨RX0, "isDigitHere", "()Z"⟩
abbrev cX0_byteHere : ByteArray := prog_2_method_9_code
def yX0_byteHere : MethodName := ⟨RX0, "byteHere", "()I"⟩
def RX1 : String := "MeetingOrders$Row"
def TX1 : u_T := fun k => match k with
  | _ => ("MeetingOrders$Row", "cells", "[I", true)
def tyX1 : Nat → FieldType := fun k => match k with
  | _ => .array .int
abbrev wsX10 : List Cond := u_ws RX1 TX1 1
theorem nmX1 : ∀ a, a < 1 → ∀ b, b < 1 → a ≠ b → (TX1 a).2.1 ≠ (TX1 b).2.1 := by decide +kernel
theorem tyX1_ok : ∀ k, k < 1 → parseFieldDescriptor (TX1 k).2.2.1 = some (tyX1 k) := by decide +kernel
abbrev cX1_init : ByteArray := prog_3_method_1_code
def yX1_init : MethodName := ⟨RX1, "<init>", "(I)V"⟩
abbrev cX1_get : ByteArray := prog_3_method_2_code
def yX1_get : MethodName := ⟨RX1, "get", "(I)I"⟩
abbrev cX1_set : ByteArray := prog_3_method_3_code
def yX1_set : MethodName := ⟨RX1, "set", "(II)V"⟩
abbrev cX1_add : ByteArray := prog_3_method_4_code
def yX1_add : MethodName := ⟨RX1, "add", "(II)V"⟩
abbrev cX1_mark : ByteArray := prog_3_method_5_code
def yX1_mark : MethodName := ⟨RX1, "mark", "(II)V"⟩
abbrev cX1_sum : ByteArray := prog_3_method_6_code
def yX1_sum : MethodName := ⟨RX1, "sum", "()I"⟩
abbrev cX1_clear : ByteArray := prog_3_method_7_code
def yX1_clear : MethodName := ⟨RX1, "clear", "()V"⟩
abbrev cX1_copyFrom : ByteArray := prog_3_method_8_code
def yX1_copyFrom : MethodName := ⟨RX1, "copyFrom", "(LMeetingOrders$Row;)V"⟩
def RX2 : String := "MeetingOrders$State"
def TX2 : u_T := fun k => match k with
  | 0 => ("MeetingOrders$State", "orders", "I", false)
  | 1 => ("MeetingOrders$State", "escorts", "I", false)
  | 2 => ("MeetingOrders$State", "venues", "I", false)
  | 3 => ("MeetingOrders$State", "meetings", "I", false)
  | 4 => ("MeetingOrders$State", "week", "I", false)
  | 5 => ("MeetingOrders$State", "nextNumber", "I", false)
  | 6 => ("MeetingOrders$State", "hours", "LMeetingOrders$Row;", true)
  | 7 => ("MeetingOrders$State", "allowed", "LMeetingOrders$Row;", true)
  | 8 => ("MeetingOrders$State", "held", "LMeetingOrders$Row;", true)
  | 9 => ("MeetingOrders$State", "missed", "LMeetingOrders$Row;", true)
  | 10 => ("MeetingOrders$State", "slots", "LMeetingOrders$Row;", true)
  | 11 => ("MeetingOrders$State", "limits", "LMeetingOrders$Row;", true)
  | 12 => ("MeetingOrders$State", "heldWith", "LMeetingOrders$Row;", true)
  | 13 => ("MeetingOrders$State", "rooms", "LMeetingOrders$Row;", true)
  | _ => ("MeetingOrders$State", "facts", "LMeetingOrders$Row;", true)
def tyX2 : Nat → FieldType := fun k => match k with
  | 0 => .int
  | 1 => .int
  | 2 => .int
  | 3 => .int
  | 4 => .int
  | 5 => .int
  | 6 => .object "MeetingOrders$Row"
  | 7 => .object "MeetingOrders$Row"
  | 8 => .object "MeetingOrders$Row"
  | 9 => .object "MeetingOrders$Row"
  | 10 => .object "MeetingOrders$Row"
  | 11 => .object "MeetingOrders$Row"
  | 12 => .object "MeetingOrders$Row"
  | 13 => .object "MeetingOrders$Row"
  | _ => .object "MeetingOrders$Row"
abbrev wsX20 : List Cond := u_ws RX2 TX2 15
theorem nmX2 : ∀ a, a < 15 → ∀ b, b < 15 → a ≠ b → (TX2 a).2.1 ≠ (TX2 b).2.1 := by decide +kernel
theorem tyX2_ok : ∀ k, k < 15 → parseFieldDescriptor (TX2 k).2.2.1 = some (tyX2 k) := by decide +kernel
abbrev cX2_init : ByteArray := prog_4_method_1_code
def yX2_init : MethodName := ⟨RX2, "<init>", "()V"⟩
abbrev cX2_copyFrom : ByteArray := prog_4_method_2_code
def yX2_copyFrom : MethodName := ⟨RX2, "copyFrom", "(LMeetingOrders$State;)V"⟩
abbrev cX2_hasOrder : ByteArray := prog_4_method_3_code
def yX2_hasOrder : MethodName := ⟨RX2, "hasOrder", "(I)Z"⟩
abbrev cX2_hasEscort : ByteArray := prog_4_method_4_code
def yX2_hasEscort : MethodName := ⟨RX2, "hasEscort", "(I)Z"⟩
abbrev cX2_hasVenue : ByteArray := prog_4_method_5_code
def yX2_hasVenue : MethodName := ⟨RX2, "hasVenue", "(I)Z"⟩
abbrev cX2_hasAllVenues : ByteArray := prog_4_method_6_code
def yX2_hasAllVenues : MethodName := ⟨RX2, "hasAllVenues", "(I)Z"⟩
abbrev cX2_isOver : ByteArray := prog_4_method_7_code
def yX2_isOver : MethodName := ⟨RX2, "isOver", "(I)Z"⟩
abbrev cX2_isLastWeek : ByteArray := prog_4_method_8_code
def yX2_isLastWeek : MethodName := ⟨RX2, "isLastWeek", "()Z"⟩
abbrev cX2_isFull : ByteArray := prog_4_method_9_code
def yX2_isFull : MethodName := ⟨RX2, "isFull", "()Z"⟩
abbrev cX2_enterOrder : ByteArray := prog_4_method_10_code
def yX2_enterOrder : MethodName := ⟨RX2, "enterOrder", "(II)I"⟩
abbrev cX2_enterEscort : ByteArray := prog_4_method_11_code
def yX2_enterEscort : MethodName := ⟨RX2, "enterEscort", "(II)I"⟩
abbrev cX2_enterVenue : ByteArray := prog_4_method_12_code
def yX2_enterVenue : MethodName := ⟨RX2, "enterVenue", "(I)I"⟩
abbrev cX2_hoursIn : ByteArray := prog_4_method_13_code
def yX2_hoursIn : MethodName := ⟨RX2, "hoursIn", "(II)I"⟩
abbrev cX2_setHoursFrom : ByteArray := prog_4_method_14_code
def yX2_setHoursFrom : MethodName := ⟨RX2, "setHoursFrom", "(III)V"⟩
abbrev cX2_hoursUpTo : ByteArray := prog_4_method_15_code
def yX2_hoursUpTo : MethodName := ⟨RX2, "hoursUpTo", "(II)I"⟩
abbrev cX2_plannedUpTo : ByteArray := prog_4_method_16_code
def yX2_plannedUpTo : MethodName := ⟨RX2, "plannedUpTo", "(II)I"⟩
abbrev cX2_debt : ByteArray := prog_4_method_17_code
def yX2_debt : MethodName := ⟨RX2, "debt", "(II)I"⟩
abbrev cX2_debtOfAll : ByteArray := prog_4_method_18_code
def yX2_debtOfAll : MethodName := ⟨RX2, "debtOfAll", "(I)I"⟩
abbrev cX2_meetingsWith : ByteArray := prog_4_method_19_code
def yX2_meetingsWith : MethodName := ⟨RX2, "meetingsWith", "(II)I"⟩
abbrev cX2_fact : ByteArray := prog_4_method_20_code
def yX2_fact : MethodName := ⟨RX2, "fact", "(II)I"⟩
abbrev cX2_takesPlaceIn : ByteArray := prog_4_method_21_code
def yX2_takesPlaceIn : MethodName := ⟨RX2, "takesPlaceIn", "(II)Z"⟩
abbrev cX2_isOpen : ByteArray := prog_4_method_22_code
def yX2_isOpen : MethodName := ⟨RX2, "isOpen", "(I)Z"⟩
abbrev cX2_placeOf : ByteArray := prog_4_method_23_code
def yX2_placeOf : MethodName := ⟨RX2, "placeOf", "(I)I"⟩
abbrev cX2_keepMeeting : ByteArray := prog_4_method_24_code
def yX2_keepMeeting : MethodName := ⟨RX2, "keepMeeting", "(IIIII)I"⟩
abbrev cX2_moveMeeting : ByteArray := prog_4_method_25_code
def yX2_moveMeeting : MethodName := ⟨RX2, "moveMeeting", "(II)V"⟩
abbrev cX2_dropMeeting : ByteArray := prog_4_method_26_code
def yX2_dropMeeting : MethodName := ⟨RX2, "dropMeeting", "(I)V"⟩
abbrev cX2_settle : ByteArray := prog_4_method_27_code
def yX2_settle : MethodName := ⟨RX2, "settle", "(II)V"⟩
abbrev cX2_settleWeek : ByteArray := prog_4_method_28_code
def yX2_settleWeek : MethodName := ⟨RX2, "settleWeek", "(I)I"⟩
abbrev cX2_beginNextWeek : ByteArray := prog_4_method_29_code
def yX2_beginNextWeek : MethodName := ⟨RX2, "beginNextWeek", "()V"⟩
def RX3 : String := "MeetingOrders$WeekBook"
def TX3 : u_T := fun k => match k with
  | 0 => ("MeetingOrders$WeekBook", "daysOfOrder", "LMeetingOrders$Row;", true)
  | 1 => ("MeetingOrders$WeekBook", "slotsOfEscort", "LMeetingOrders$Row;", true)
  | 2 => ("MeetingOrders$WeekBook", "meetingsOfEscort", "LMeetingOrders$Row;", true)
  | 3 => ("MeetingOrders$WeekBook", "roomsTaken", "LMeetingOrders$Row;", true)
  | 4 => ("MeetingOrders$WeekBook", "debts", "LMeetingOrders$Row;", true)
  | 5 => ("MeetingOrders$WeekBook", "slot", "I", false)
  | 6 => ("MeetingOrders$WeekBook", "escort", "I", false)
  | _ => ("MeetingOrders$WeekBook", "venue", "I", false)
def tyX3 : Nat → FieldType := fun k => match k with
  | 0 => .object "MeetingOrders$Row"
  | 1 => .object "MeetingOrders$Row"
  | 2 => .object "MeetingOrders$Row"
  | 3 => .object "MeetingOrders$Row"
  | 4 => .object "MeetingOrders$Row"
  | 5 => .int
  | 6 => .int
  | _ => .int
abbrev wsX30 : List Cond := u_ws RX3 TX3 8
theorem nmX3 : ∀ a, a < 8 → ∀ b, b < 8 → a ≠ b → (TX3 a).2.1 ≠ (TX3 b).2.1 := by decide +kernel
theorem tyX3_ok : ∀ k, k < 8 → parseFieldDescriptor (TX3 k).2.2.1 = some (tyX3 k) := by decide +kernel
abbrev cX3_init : ByteArray := prog_5_method_1_code
def yX3_init : MethodName := ⟨RX3, "<init>", "()V"⟩
abbrev cX3_open : ByteArray := prog_5_method_2_code
def yX3_open : MethodName := ⟨RX3, "open", "(LMeetingOrders$State;I)V"⟩
abbrev cX3_take : ByteArray := prog_5_method_3_code
def yX3_take : MethodName := ⟨RX3, "take", "(IIII)V"⟩
abbrev cX3_conflict : ByteArray := prog_5_method_4_code
def yX3_conflict : MethodName := ⟨RX3, "conflict", "(LMeetingOrders$State;IIII)I"⟩
abbrev cX3_roomsLeft : ByteArray := prog_5_method_5_code
def yX3_roomsLeft : MethodName := ⟨RX3, "roomsLeft", "(LMeetingOrders$State;II)I"⟩
abbrev cX3_planAll : ByteArray := prog_5_method_6_code
def yX3_planAll : MethodName := ⟨RX3, "planAll", "(LMeetingOrders$State;I)I"⟩
abbrev cX3_greatestDebt : ByteArray := prog_5_method_7_code
def yX3_greatestDebt : MethodName := ⟨RX3, "greatestDebt", "(LMeetingOrders$State;)I"⟩
abbrev cX3_search : ByteArray := prog_5_method_8_code
def yX3_search : MethodName := ⟨RX3, "search", "(LMeetingOrders$State;I)Z"⟩
abbrev cX3_freestEscort : ByteArray := prog_5_method_9_code
def yX3_freestEscort : MethodName := ⟨RX3, "freestEscort", "(LMeetingOrders$State;I)I"⟩
abbrev cX3_firstVenue : ByteArray := prog_5_method_10_code
def yX3_firstVenue : MethodName := ⟨RX3, "firstVenue", "(LMeetingOrders$State;II)I"⟩
abbrev cX3_isIn : ByteArray := prog_5_method_11_code
def yX3_isIn : MethodName := ⟨RX3, "isIn", "(II)Z"⟩
def RX4 : String := "MeetingOrders"
def TX4 : u_T := fun k => match k with
  | 0 => ("MeetingOrders", "now", "LMeetingOrders$State;", true)
  | 1 => ("MeetingOrders", "trial", "LMeetingOrders$State;", true)
  | 2 => ("MeetingOrders", "saved", "[LMeetingOrders$State;", true)
  | 3 => ("MeetingOrders", "book", "LMeetingOrders$WeekBook;", true)
  | 4 => ("MeetingOrders", "text", "LMeetingOrders$OrderText;", true)
  | _ => ("MeetingOrders", "savedCount", "I", false)
def tyX4 : Nat → FieldType := fun k => match k with
  | 0 => .object "MeetingOrders$State"
  | 1 => .object "MeetingOrders$State"
  | 2 => .array (.object "MeetingOrders$State")
  | 3 => .object "MeetingOrders$WeekBook"
  | 4 => .object "MeetingOrders$OrderText"
  | _ => .int
abbrev wsX40 : List Cond := u_ws RX4 TX4 6
theorem nmX4 : ∀ a, a < 6 → ∀ b, b < 6 → a ≠ b → (TX4 a).2.1 ≠ (TX4 b).2.1 := by decide +kernel
theorem tyX4_ok : ∀ k, k < 6 → parseFieldDescriptor (TX4 k).2.2.1 = some (tyX4 k) := by decide +kernel
abbrev cX4_init : ByteArray := prog_1_method_1_code
def yX4_init : MethodName := ⟨RX4, "<init>", "()V"⟩
abbrev cX4_addOrder : ByteArray := prog_1_method_2_code
def yX4_addOrder : MethodName := ⟨RX4, "addOrder", "(II)I"⟩
abbrev cX4_change : ByteArray := prog_1_method_3_code
def yX4_change : MethodName := ⟨RX4, "change", "(III)I"⟩
abbrev cX4_allow : ByteArray := prog_1_method_4_code
def yX4_allow : MethodName := ⟨RX4, "allow", "(II)I"⟩
abbrev cX4_addEscort : ByteArray := prog_1_method_5_code
def yX4_addEscort : MethodName := ⟨RX4, "addEscort", "(II)I"⟩
abbrev cX4_setSlots : ByteArray := prog_1_method_6_code
def yX4_setSlots : MethodName := ⟨RX4, "setSlots", "(II)I"⟩
abbrev cX4_addVenue : ByteArray := prog_1_method_7_code
def yX4_addVenue : MethodName := ⟨RX4, "addVenue", "(I)I"⟩
abbrev cX4_plan : ByteArray := prog_1_method_8_code
def yX4_plan : MethodName := ⟨RX4, "plan", "(IIIII)I"⟩
abbrev cX4_planWeek : ByteArray := prog_1_method_9_code
def yX4_planWeek : MethodName := ⟨RX4, "planWeek", "(I)I"⟩
abbrev cX4_cancel : ByteArray := prog_1_method_10_code
def yX4_cancel : MethodName := ⟨RX4, "cancel", "(I)I"⟩
abbrev cX4_tell : ByteArray := prog_1_method_11_code
def yX4_tell : MethodName := ⟨RX4, "tell", "(IZ)I"⟩
abbrev cX4_endWeek : ByteArray := prog_1_method_12_code
def yX4_endWeek : MethodName := ⟨RX4, "endWeek", "()I"⟩
abbrev cX4_order : ByteArray := prog_1_method_13_code
def yX4_order : MethodName := ⟨RX4, "order", "(II)I"⟩
abbrev cX4_hours : ByteArray := prog_1_method_14_code
def yX4_hours : MethodName := ⟨RX4, "hours", "(II)I"⟩
abbrev cX4_owed : ByteArray := prog_1_method_15_code
def yX4_owed : MethodName := ⟨RX4, "owed", "(II)I"⟩
abbrev cX4_meeting : ByteArray := prog_1_method_16_code
def yX4_meeting : MethodName := ⟨RX4, "meeting", "(II)I"⟩
abbrev cX4_escort : ByteArray := prog_1_method_17_code
def yX4_escort : MethodName := ⟨RX4, "escort", "(II)I"⟩
abbrev cX4_freeRooms : ByteArray := prog_1_method_18_code
def yX4_freeRooms : MethodName := ⟨RX4, "freeRooms", "(III)I"⟩
abbrev cX4_value : ByteArray := prog_1_method_19_code
def yX4_value : MethodName := ⟨RX4, "value", "(I)I"⟩
abbrev cX4_why : ByteArray := prog_1_method_20_code
def yX4_why : MethodName := ⟨RX4, "why", "(IIIII)I"⟩
abbrev cX4_firstSlot : ByteArray := prog_1_method_21_code
def yX4_firstSlot : MethodName := ⟨RX4, "firstSlot", "(II)I"⟩
abbrev cX4_owedBehind : ByteArray := prog_1_method_22_code
def yX4_owedBehind : MethodName := ⟨RX4, "owedBehind", "(I)I"⟩
abbrev cX4_settledIn : ByteArray := prog_1_method_23_code
def yX4_settledIn : MethodName := ⟨RX4, "settledIn", "()I"⟩
abbrev cX4_gainBy : ByteArray := prog_1_method_24_code
def yX4_gainBy : MethodName := ⟨RX4, "gainBy", "(II)I"⟩
abbrev cX4_kept : ByteArray := prog_1_method_25_code
def yX4_kept : MethodName := ⟨RX4, "kept", "()D"⟩
abbrev cX4_append : ByteArray := prog_1_method_26_code
def yX4_append : MethodName := ⟨RX4, "append", "(I)I"⟩
abbrev cX4_clearText : ByteArray := prog_1_method_27_code
def yX4_clearText : MethodName := ⟨RX4, "clearText", "()I"⟩
abbrev cX4_carryOut : ByteArray := prog_1_method_28_code
def yX4_carryOut : MethodName := ⟨RX4, "carryOut", "()I"⟩
abbrev cX4_undo : ByteArray := prog_1_method_29_code
def yX4_undo : MethodName := ⟨RX4, "undo", "()I"⟩
abbrev cX4_digest : ByteArray := prog_1_method_30_code
def yX4_digest : MethodName := ⟨RX4, "digest", "()J"⟩
abbrev cX4_digestOfOrder : ByteArray := prog_1_method_31_code
def yX4_digestOfOrder : MethodName := ⟨RX4, "digestOfOrder", "(JI)J"⟩
abbrev cX4_digestOfMeeting : ByteArray := prog_1_method_32_code
def yX4_digestOfMeeting : MethodName := ⟨RX4, "digestOfMeeting", "(JI)J"⟩
abbrev cX4_carryOutOne : ByteArray := prog_1_method_33_code
def yX4_carryOutOne : MethodName := ⟨RX4, "carryOutOne", "(IIII)Z"⟩
abbrev cX4_settleIfOpen : ByteArray := prog_1_method_34_code
def yX4_settleIfOpen : MethodName := ⟨RX4, "settleIfOpen", "(II)Z"⟩
abbrev cX4_reasonAgainst : ByteArray := prog_1_method_35_code
def yX4_reasonAgainst : MethodName := ⟨RX4, "reasonAgainst", "(IIIII)I"⟩
abbrev cX4_save : ByteArray := prog_1_method_36_code
def yX4_save : MethodName := ⟨RX4, "save", "()V"⟩
abbrev cX4_mayChange : ByteArray := prog_1_method_37_code
def yX4_mayChange : MethodName := ⟨RX4, "mayChange", "(II)Z"⟩
abbrev cX4_isHours : ByteArray := prog_1_method_38_code
def yX4_isHours : MethodName := ⟨RX4, "isHours", "(I)Z"⟩
abbrev cX4_isWeek : ByteArray := prog_1_method_39_code
def yX4_isWeek : MethodName := ⟨RX4, "isWeek", "(I)Z"⟩
abbrev cX4_isSlot : ByteArray := prog_1_method_40_code
def yX4_isSlot : MethodName := ⟨RX4, "isSlot", "(I)Z"⟩
abbrev cX4_isSetOfSlots : ByteArray := prog_1_method_41_code
def yX4_isSetOfSlots : MethodName := ⟨RX4, "isSetOfSlots", "(I)Z"⟩
def RX5 : String := "MeetingOrdersModel"
def TX5 : u_T := fun k => match k with
  | 0 => ("MeetingOrdersModel", "all", "[I", true)
  | 1 => ("MeetingOrdersModel", "saved", "[I", true)
  | 2 => ("MeetingOrdersModel", "savedMany", "I", false)
  | 3 => ("MeetingOrdersModel", "aside", "[I", true)
  | 4 => ("MeetingOrdersModel", "thrown", "I", false)
  | 5 => ("MeetingOrdersModel", "free", "[I", true)
  | 6 => ("MeetingOrdersModel", "busy", "[I", true)
  | 7 => ("MeetingOrdersModel", "manyOf", "[I", true)
  | 8 => ("MeetingOrdersModel", "days", "[I", true)
  | 9 => ("MeetingOrdersModel", "text", "[I", true)
  | 10 => ("MeetingOrdersModel", "textLong", "I", false)
  | 11 => ("MeetingOrdersModel", "at", "I", false)
  | 12 => ("MeetingOrdersModel", "letter", "I", false)
  | 13 => ("MeetingOrdersModel", "numbers", "[I", true)
  | _ => ("MeetingOrdersModel", "sum", "J", false)
def tyX5 : Nat → FieldType := fun k => match k with
  | 0 => .array .int
  | 1 => .array .int
  | 2 => .int
  | 3 => .array .int
  | 4 => .int
  | 5 => .array .int
  | 6 => .array .int
  | 7 => .array .int
  | 8 => .array .int
  | 9 => .array .int
  | 10 => .int
  | 11 => .int
  | 12 => .int
  | 13 => .array .int
  | _ => .long
abbrev wsX50 : List Cond := u_ws RX5 TX5 15
theorem nmX5 : ∀ a, a < 15 → ∀ b, b < 15 → a ≠ b → (TX5 a).2.1 ≠ (TX5 b).2.1 := by decide +kernel
theorem tyX5_ok : ∀ k, k < 15 → parseFieldDescriptor (TX5 k).2.2.1 = some (tyX5 k) := by decide +kernel
abbrev cX5_init : ByteArray := prog_7_method_1_code
def yX5_init : MethodName := ⟨RX5, "<init>", "()V"⟩
abbrev cX5_thrown : ByteArray := prog_7_method_2_code
def yX5_thrown : MethodName := ⟨RX5, "thrown", "()I"⟩
abbrev cX5_in : ByteArray := prog_7_method_3_code
def yX5_in : MethodName := ⟨RX5, "in", "(JJJ)Z"⟩
abbrev cX5_goes : ByteArray := prog_7_method_4_code
def yX5_goes : MethodName := ⟨RX5, "goes", "(ZZZ)Z"⟩
abbrev cX5_save : ByteArray := prog_7_method_5_code
def yX5_save : MethodName := ⟨RX5, "save", "()V"⟩
abbrev cX5_layAside : ByteArray := prog_7_method_6_code
def yX5_layAside : MethodName := ⟨RX5, "layAside", "()V"⟩
abbrev cX5_takeBack : ByteArray := prog_7_method_7_code
def yX5_takeBack : MethodName := ⟨RX5, "takeBack", "()V"⟩
abbrev cX5_has : ByteArray := prog_7_method_8_code
def yX5_has : MethodName := ⟨RX5, "has", "(II)Z"⟩
abbrev cX5_isOrder : ByteArray := prog_7_method_9_code
def yX5_isOrder : MethodName := ⟨RX5, "isOrder", "(I)Z"⟩
abbrev cX5_isEscort : ByteArray := prog_7_method_10_code
def yX5_isEscort : MethodName := ⟨RX5, "isEscort", "(I)Z"⟩
abbrev cX5_isVenue : ByteArray := prog_7_method_11_code
def yX5_isVenue : MethodName := ⟨RX5, "isVenue", "(I)Z"⟩
abbrev cX5_isWeek : ByteArray := prog_7_method_12_code
def yX5_isWeek : MethodName := ⟨RX5, "isWeek", "(I)Z"⟩
abbrev cX5_isSlot : ByteArray := prog_7_method_13_code
def yX5_isSlot : MethodName := ⟨RX5, "isSlot", "(I)Z"⟩
abbrev cX5_areVenues : ByteArray := prog_7_method_14_code
def yX5_areVenues : MethodName := ⟨RX5, "areVenues", "(I)Z"⟩
abbrev cX5_addOrder : ByteArray := prog_7_method_15_code
def yX5_addOrder : MethodName := ⟨RX5, "addOrder", "(II)I"⟩
abbrev cX5_changes : ByteArray := prog_7_method_16_code
def yX5_changes : MethodName := ⟨RX5, "changes", "(III)V"⟩
abbrev cX5_mayChange : ByteArray := prog_7_method_17_code
def yX5_mayChange : MethodName := ⟨RX5, "mayChange", "(II)Z"⟩
abbrev cX5_change : ByteArray := prog_7_method_18_code
def yX5_change : MethodName := ⟨RX5, "change", "(III)I"⟩
abbrev cX5_exchange : ByteArray := prog_7_method_19_code
def yX5_exchange : MethodName := ⟨RX5, "exchange", "(II)I"⟩
abbrev cX5_allow : ByteArray := prog_7_method_20_code
def yX5_allow : MethodName := ⟨RX5, "allow", "(II)I"⟩
abbrev cX5_addEscort : ByteArray := prog_7_method_21_code
def yX5_addEscort : MethodName := ⟨RX5, "addEscort", "(II)I"⟩
abbrev cX5_setSlots : ByteArray := prog_7_method_22_code
def yX5_setSlots : MethodName := ⟨RX5, "setSlots", "(II)I"⟩
abbrev cX5_addVenue : ByteArray := prog_7_method_23_code
def yX5_addVenue : MethodName := ⟨RX5, "addVenue", "(I)I"⟩
abbrev cX5_of : ByteArray := prog_7_method_24_code
def yX5_of : MethodName := ⟨RX5, "of", "(II)I"⟩
abbrev cX5_placeOf : ByteArray := prog_7_method_25_code
def yX5_placeOf : MethodName := ⟨RX5, "placeOf", "(I)I"⟩
abbrev cX5_takeOut : ByteArray := prog_7_method_26_code
def yX5_takeOut : MethodName := ⟨RX5, "takeOut", "(I)V"⟩
abbrev cX5_stands : ByteArray := prog_7_method_27_code
def yX5_stands : MethodName := ⟨RX5, "stands", "(II)Z"⟩
abbrev cX5_look : ByteArray := prog_7_method_28_code
def yX5_look : MethodName := ⟨RX5, "look", "(I)V"⟩
abbrev cX5_whyEscort : ByteArray := prog_7_method_29_code
def yX5_whyEscort : MethodName := ⟨RX5, "whyEscort", "(II)I"⟩
abbrev cX5_reason : ByteArray := prog_7_method_30_code
def yX5_reason : MethodName := ⟨RX5, "reason", "(IIIII)I"⟩
abbrev cX5_lays : ByteArray := prog_7_method_31_code
def yX5_lays : MethodName := ⟨RX5, "lays", "(IIIII)V"⟩
abbrev cX5_areThere : ByteArray := prog_7_method_32_code
def yX5_areThere : MethodName := ⟨RX5, "areThere", "(III)Z"⟩
abbrev cX5_plan : ByteArray := prog_7_method_33_code
def yX5_plan : MethodName := ⟨RX5, "plan", "(IIIII)I"⟩
abbrev cX5_owes : ByteArray := prog_7_method_34_code
def yX5_owes : MethodName := ⟨RX5, "owes", "(II)I"⟩
abbrev cX5_owedByAll : ByteArray := prog_7_method_35_code
def yX5_owedByAll : MethodName := ⟨RX5, "owedByAll", "(I)I"⟩
abbrev cX5_venueFor : ByteArray := prog_7_method_36_code
def yX5_venueFor : MethodName := ⟨RX5, "venueFor", "(II)I"⟩
abbrev cX5_escortFor : ByteArray := prog_7_method_37_code
def yX5_escortFor : MethodName := ⟨RX5, "escortFor", "(I)I"⟩
abbrev cX5_slotFor : ByteArray := prog_7_method_38_code
def yX5_slotFor : MethodName := ⟨RX5, "slotFor", "(II)I"⟩
abbrev cX5_plansOne : ByteArray := prog_7_method_39_code
def yX5_plansOne : MethodName := ⟨RX5, "plansOne", "(I)Z"⟩
abbrev cX5_plans : ByteArray := prog_7_method_40_code
def yX5_plans : MethodName := ⟨RX5, "plans", "(I)I"⟩
abbrev cX5_planWeek : ByteArray := prog_7_method_41_code
def yX5_planWeek : MethodName := ⟨RX5, "planWeek", "(I)I"⟩
abbrev cX5_cancel : ByteArray := prog_7_method_42_code
def yX5_cancel : MethodName := ⟨RX5, "cancel", "(I)I"⟩
abbrev cX5_holds : ByteArray := prog_7_method_43_code
def yX5_holds : MethodName := ⟨RX5, "holds", "(I)V"⟩
abbrev cX5_misses : ByteArray := prog_7_method_44_code
def yX5_misses : MethodName := ⟨RX5, "misses", "(I)V"⟩
abbrev cX5_mayTell : ByteArray := prog_7_method_45_code
def yX5_mayTell : MethodName := ⟨RX5, "mayTell", "(I)Z"⟩
abbrev cX5_tells : ByteArray := prog_7_method_46_code
def yX5_tells : MethodName := ⟨RX5, "tells", "(IZ)V"⟩
abbrev cX5_tell : ByteArray := prog_7_method_47_code
def yX5_tell : MethodName := ⟨RX5, "tell", "(IZ)I"⟩
abbrev cX5_ends : ByteArray := prog_7_method_48_code
def yX5_ends : MethodName := ⟨RX5, "ends", "()I"⟩
abbrev cX5_endWeek : ByteArray := prog_7_method_49_code
def yX5_endWeek : MethodName := ⟨RX5, "endWeek", "()I"⟩
abbrev cX5_plannedOf : ByteArray := prog_7_method_50_code
def yX5_plannedOf : MethodName := ⟨RX5, "plannedOf", "(I)I"⟩
abbrev cX5_hoursOf : ByteArray := prog_7_method_51_code
def yX5_hoursOf : MethodName := ⟨RX5, "hoursOf", "(I)I"⟩
abbrev cX5_orderValue : ByteArray := prog_7_method_52_code
def yX5_orderValue : MethodName := ⟨RX5, "orderValue", "(II)I"⟩
abbrev cX5_order : ByteArray := prog_7_method_53_code
def yX5_order : MethodName := ⟨RX5, "order", "(II)I"⟩
abbrev cX5_hours : ByteArray := prog_7_method_54_code
def yX5_hours : MethodName := ⟨RX5, "hours", "(II)I"⟩
abbrev cX5_owed : ByteArray := prog_7_method_55_code
def yX5_owed : MethodName := ⟨RX5, "owed", "(II)I"⟩
abbrev cX5_meeting : ByteArray := prog_7_method_56_code
def yX5_meeting : MethodName := ⟨RX5, "meeting", "(II)I"⟩
abbrev cX5_manyNow : ByteArray := prog_7_method_57_code
def yX5_manyNow : MethodName := ⟨RX5, "manyNow", "(I)I"⟩
abbrev cX5_escortValue : ByteArray := prog_7_method_58_code
def yX5_escortValue : MethodName := ⟨RX5, "escortValue", "(II)I"⟩
abbrev cX5_escort : ByteArray := prog_7_method_59_code
def yX5_escort : MethodName := ⟨RX5, "escort", "(II)I"⟩
abbrev cX5_freeRooms : ByteArray := prog_7_method_60_code
def yX5_freeRooms : MethodName := ⟨RX5, "freeRooms", "(III)I"⟩
abbrev cX5_numberOf : ByteArray := prog_7_method_61_code
def yX5_numberOf : MethodName := ⟨RX5, "numberOf", "(I)I"⟩
abbrev cX5_value : ByteArray := prog_7_method_62_code
def yX5_value : MethodName := ⟨RX5, "value", "(I)I"⟩
abbrev cX5_why : ByteArray := prog_7_method_63_code
def yX5_why : MethodName := ⟨RX5, "why", "(IIIII)I"⟩
abbrev cX5_firstSlot : ByteArray := prog_7_method_64_code
def yX5_firstSlot : MethodName := ⟨RX5, "firstSlot", "(II)I"⟩
abbrev cX5_owedBehind : ByteArray := prog_7_method_65_code
def yX5_owedBehind : MethodName := ⟨RX5, "owedBehind", "(I)I"⟩
abbrev cX5_holdsAll : ByteArray := prog_7_method_66_code
def yX5_holdsAll : MethodName := ⟨RX5, "holdsAll", "()V"⟩
abbrev cX5_settled : ByteArray := prog_7_method_67_code
def yX5_settled : MethodName := ⟨RX5, "settled", "()I"⟩
abbrev cX5_settledIn : ByteArray := prog_7_method_68_code
def yX5_settledIn : MethodName := ⟨RX5, "settledIn", "()I"⟩
abbrev cX5_gainBy : ByteArray := prog_7_method_69_code
def yX5_gainBy : MethodName := ⟨RX5, "gainBy", "(II)I"⟩
abbrev cX5_kept : ByteArray := prog_7_method_70_code
def yX5_kept : MethodName := ⟨RX5, "kept", "()D"⟩
abbrev cX5_append : ByteArray := prog_7_method_71_code
def yX5_append : MethodName := ⟨RX5, "append", "(I)I"⟩
abbrev cX5_clearText : ByteArray := prog_7_method_72_code
def yX5_clearText : MethodName := ⟨RX5, "clearText", "()I"⟩
abbrev cX5_here : ByteArray := prog_7_method_73_code
def yX5_here : MethodName := ⟨RX5, "here", "()I"⟩
abbrev cX5_takesByte : ByteArray := prog_7_method_74_code
def yX5_takesByte : MethodName := ⟨RX5, "takesByte", "(I)Z"⟩
abbrev cX5_takesDigit : ByteArray := prog_7_method_75_code
def yX5_takesDigit : MethodName := ⟨RX5, "takesDigit", "(I)Z"⟩
abbrev cX5_takesNumber : ByteArray := prog_7_method_76_code
def yX5_takesNumber : MethodName := ⟨RX5, "takesNumber", "(II)Z"⟩
abbrev cX5_takesParts : ByteArray := prog_7_method_77_code
def yX5_takesParts : MethodName := ⟨RX5, "takesParts", "()Z"⟩
abbrev cX5_takesOrder : ByteArray := prog_7_method_78_code
def yX5_takesOrder : MethodName := ⟨RX5, "takesOrder", "()Z"⟩
abbrev cX5_changesOrder : ByteArray := prog_7_method_79_code
def yX5_changesOrder : MethodName := ⟨RX5, "changesOrder", "()Z"⟩
abbrev cX5_does : ByteArray := prog_7_method_80_code
def yX5_does : MethodName := ⟨RX5, "does", "()Z"⟩
abbrev cX5_carryOut : ByteArray := prog_7_method_81_code
def yX5_carryOut : MethodName := ⟨RX5, "carryOut", "()I"⟩
abbrev cX5_undo : ByteArray := prog_7_method_82_code
def yX5_undo : MethodName := ⟨RX5, "undo", "()I"⟩
abbrev cX5_adds : ByteArray := prog_7_method_83_code
def yX5_adds : MethodName := ⟨RX5, "adds", "(I)V"⟩
abbrev cX5_addsOrder : ByteArray := prog_7_method_84_code
def yX5_addsOrder : MethodName := ⟨RX5, "addsOrder", "(I)V"⟩
abbrev cX5_digest : ByteArray := prog_7_method_85_code
def yX5_digest : MethodName := ⟨RX5, "digest", "()J"⟩
def RJ9 : String := "java/lang/Math"
def TJ9 : u_T := fun k => match k with
  | _ => ("", "", "", false)
def tyJ9 : Nat → FieldType := fun k => match k with
  | _ => .int
abbrev wsJ90 : List Cond := u_ws RJ9 TJ9 0
theorem nmJ9 : ∀ a, a < 0 → ∀ b, b < 0 → a ≠ b → (TJ9 a).2.1 ≠ (TJ9 b).2.1 := by decide +kernel
theorem tyJ9_ok : ∀ k, k < 0 → parseFieldDescriptor (TJ9 k).2.2.1 = some (tyJ9 k) := by decide +kernel
abbrev cJ9_max_7cf53 : ByteArray := prog_12_method_65_code
def yJ9_max_7cf53 : MethodName := ⟨RJ9, "max", "(II)I"⟩
abbrev cJ9_min_7cf53 : ByteArray := prog_12_method_69_code
def yJ9_min_7cf53 : MethodName := ⟨RJ9, "min", "(II)I"⟩
def RJ0 : String := "java/lang/String"
def TJ0 : u_T := fun k => match k with
  | _ => ("", "", "", false)
def tyJ0 : Nat → FieldType := fun k => match k with
  | _ => .int
abbrev wsJ00 : List Cond := u_ws RJ0 TJ0 0
theorem nmJ0 : ∀ a, a < 0 → ∀ b, b < 0 → a ≠ b → (TJ0 a).2.1 ≠ (TJ0 b).2.1 := by decide +kernel
theorem tyJ0_ok : ∀ k, k < 0 → parseFieldDescriptor (TJ0 k).2.2.1 = some (tyJ0 k) := by decide +kernel
def RJ10 : String := "java/lang/System"
def TJ10 : u_T := fun k => match k with
  | _ => ("", "", "", false)
def tyJ10 : Nat → FieldType := fun k => match k with
  | _ => .int
abbrev wsJ100 : List Cond := u_ws RJ10 TJ10 0
theorem nmJ10 : ∀ a, a < 0 → ∀ b, b < 0 → a ≠ b → (TJ10 a).2.1 ≠ (TJ10 b).2.1 := by decide +kernel
theorem tyJ10_ok : ∀ k, k < 0 → parseFieldDescriptor (TJ10 k).2.2.1 = some (tyJ10 k) := by decide +kernel
def RL : String := "MeetingOrdersLaw"
abbrev cL_addOrder : ByteArray := method_3_code
def yL_addOrder : MethodName := ⟨RL, "addOrder", "(LMeetingOrders;II[J)I"⟩
abbrev cL_change : ByteArray := method_4_code
def yL_change : MethodName := ⟨RL, "change", "(LMeetingOrders;III[J)I"⟩
abbrev cL_allow : ByteArray := method_5_code
def yL_allow : MethodName := ⟨RL, "allow", "(LMeetingOrders;II[J)I"⟩
abbrev cL_addEscort : ByteArray := method_6_code
def yL_addEscort : MethodName := ⟨RL, "addEscort", "(LMeetingOrders;II[J)I"⟩
abbrev cL_setSlots : ByteArray := method_7_code
def yL_setSlots : MethodName := ⟨RL, "setSlots", "(LMeetingOrders;II[J)I"⟩
abbrev cL_addVenue : ByteArray := method_8_code
def yL_addVenue : MethodName := ⟨RL, "addVenue", "(LMeetingOrders;I[J)I"⟩
abbrev cL_plan : ByteArray := method_9_code
def yL_plan : MethodName := ⟨RL, "plan", "(LMeetingOrders;IIIII[J)I"⟩
abbrev cL_planWeek : ByteArray := method_10_code
def yL_planWeek : MethodName := ⟨RL, "planWeek", "(LMeetingOrders;I[J)I"⟩
abbrev cL_cancel : ByteArray := method_11_code
def yL_cancel : MethodName := ⟨RL, "cancel", "(LMeetingOrders;I[J)I"⟩
abbrev cL_tell : ByteArray := method_12_code
def yL_tell : MethodName := ⟨RL, "tell", "(LMeetingOrders;IZ[J)I"⟩
abbrev cL_endWeek : ByteArray := method_13_code
def yL_endWeek : MethodName := ⟨RL, "endWeek", "(LMeetingOrders;[J)I"⟩
abbrev cL_order : ByteArray := method_14_code
def yL_order : MethodName := ⟨RL, "order", "(LMeetingOrders;II[J)I"⟩
abbrev cL_hours : ByteArray := method_15_code
def yL_hours : MethodName := ⟨RL, "hours", "(LMeetingOrders;II[J)I"⟩
abbrev cL_owed : ByteArray := method_16_code
def yL_owed : MethodName := ⟨RL, "owed", "(LMeetingOrders;II[J)I"⟩
abbrev cL_meeting : ByteArray := method_17_code
def yL_meeting : MethodName := ⟨RL, "meeting", "(LMeetingOrders;II[J)I"⟩
abbrev cL_escort : ByteArray := method_18_code
def yL_escort : MethodName := ⟨RL, "escort", "(LMeetingOrders;II[J)I"⟩
abbrev cL_freeRooms : ByteArray := method_19_code
def yL_freeRooms : MethodName := ⟨RL, "freeRooms", "(LMeetingOrders;III[J)I"⟩
abbrev cL_value : ByteArray := method_20_code
def yL_value : MethodName := ⟨RL, "value", "(LMeetingOrders;I[J)I"⟩
abbrev cL_why : ByteArray := method_21_code
def yL_why : MethodName := ⟨RL, "why", "(LMeetingOrders;IIIII[J)I"⟩
abbrev cL_firstSlot : ByteArray := method_22_code
def yL_firstSlot : MethodName := ⟨RL, "firstSlot", "(LMeetingOrders;II[J)I"⟩
abbrev cL_owedBehind : ByteArray := method_23_code
def yL_owedBehind : MethodName := ⟨RL, "owedBehind", "(LMeetingOrders;I[J)I"⟩
abbrev cL_gainBy : ByteArray := method_24_code
def yL_gainBy : MethodName := ⟨RL, "gainBy", "(LMeetingOrders;II[J)I"⟩
abbrev cL_append : ByteArray := method_25_code
def yL_append : MethodName := ⟨RL, "append", "(LMeetingOrders;I[J)I"⟩
abbrev cL_undo : ByteArray := method_26_code
def yL_undo : MethodName := ⟨RL, "undo", "(LMeetingOrders;[J)I"⟩
abbrev cL_law : ByteArray := code
def yL_law : MethodName := ⟨RL, "law", "([I)Z"⟩
abbrev vwCl : List vw_C := [(RX0, TX0, 8), (RX1, TX1, 1), (RX2, TX2, 15), (RX3, TX3, 8), (RX4, TX4, 6), (RX5, TX5, 15)]
end
section
/-! THE V LAYER: ints of the machine as whole numbers, memory as a function; each rule rests on one row of the kit -/
def mo_B : List Cond := lw_tbl.filter goodWord
abbrev mo_E : Type := va_G × (ClassId × ClassId × ClassId) × Nat
def mo_tys (ρ : mo_E) : List (ClassId × FieldType) := [(ρ.2.1.1, .int), (ρ.2.1.2.1, .long), (ρ.2.1.2.2, .object RX2)]
def mo_K (ρ : mo_E) (U : State) : Prop := va_K ρ.1 vwCl (mo_tys ρ) U
def mo_iv (x : Int) : Value := .int (Int32.ofInt x)
def mo_jv (x : Int) : Value := .long (Int64.ofInt x)
abbrev mo_In (x : Int) : Prop := -2147483648 ≤ x ∧ x < 2147483648
abbrev mo_Jn (x : Int) : Prop := -9223372036854775808 ≤ x ∧ x < 9223372036854775808
abbrev mo_Kd : Type := Nat ⊕ (Nat × Nat)
abbrev mo_G : Type := (Nat → Option mo_Kd) × (Nat → Nat → Option Nat)
abbrev mo_M : Type := Nat → Nat → Int
def mo_fk : Nat → Nat → Nat
  | 0, k => if k < 5 then 2 else 0
  | 1, _ => 2
  | 2, k => if k < 6 then 0 else 2
  | 3, k => if k < 5 then 2 else 0
  | 4, k => if k < 5 then 2 else 0
  | _, k => if k = 14 then 1 else if k = 2 ∨ k = 4 ∨ k = 10 ∨ k = 11 ∨ k = 12 then 0 else 2
def mo_fn : Nat → Nat
  | 0 => 8
  | 1 => 1
  | 2 => 15
  | 3 => 8
  | 4 => 6
  | _ => 15
def mo_fv (G : mo_G) (M : mo_M) (a ci k : Nat) : Value := match mo_fk ci k with
  | 0 => mo_iv (M a k)
  | 1 => mo_jv (M a k)
  | _ => va_rf (G.2 a k)
def mo_fs (G : mo_G) (M : mo_M) (a ci : Nat) : List Value := (List.range (mo_fn ci)).map (mo_fv G M a ci)
def mo_el (ρ : mo_E) (G : mo_G) (M : mo_M) (a : Nat) : mo_Kd → va_E
  | .inl ci => .inr (ci, mo_fs G M a ci)
  | .inr (0, n) => .inl (ρ.2.1.1, n, .inl (fun j => Int32.ofInt (M a j)))
  | .inr (1, n) => .inl (ρ.2.1.2.1, n, .inr (.inl (fun j => Int64.ofInt (M a j))))
  | .inr (_ + 2, n) => .inl (ρ.2.1.2.2, n, .inr (.inr (.inr (.inr (fun j => G.2 a j)))))
/-- the heap is as the memory says, cell by cell -/
def mo_R (ρ : mo_E) (G : mo_G) (M : mo_M) (H : Heap) : Prop := ∀ (a : Nat) (e : mo_Kd), G.1 a = some e → ρ.2.2 ≤ a ∧ va_at ρ.1 vwCl (a, mo_el ρ G M a e) H
def mo_ur (M : mo_M) (a : Nat) (f : Nat → Int) : mo_M := fun b => if b = a then f else M b
theorem mo_ur_s (M : mo_M) (a : Nat) (f : Nat → Int) : mo_ur M a f a = f := by simp [mo_ur]
theorem mo_ur_n {M : mo_M} {a b : Nat} {f : Nat → Int} (h : b ≠ a) : mo_ur M a f b = M b := by simp [mo_ur, h]
theorem mo_ur_ur (M : mo_M) (a : Nat) (f g : Nat → Int) : mo_ur (mo_ur M a f) a g = mo_ur M a g := by
  funext b
  by_cases h : b = a <;> simp [mo_ur, h]
theorem mo_ur_id (M : mo_M) (a : Nat) : mo_ur M a (M a) = M := by
  funext b
  by_cases h : b = a <;> simp [mo_ur, h]
theorem mo_up_s {α : Type} (f : Nat → α) (k : Nat) (v : α) : va_up f k v k = v := by simp [va_up]
theorem mo_up_n {α : Type} {f : Nat → α} {k j : Nat} {v : α} (h : j ≠ k) : va_up f k v j = f j := by simp [va_up, h]
/-! whole numbers and the machine's -/
theorem mo_bm {z : Int} (h : mo_In z) : z.bmod (2 ^ 32) = z := Int.bmod_eq_of_le (by omega) (by omega)
theorem mo_bl {z : Int} (h : mo_Jn z) : z.bmod (2 ^ 64) = z := Int.bmod_eq_of_le (by omega) (by omega)
theorem mo_ti {z : Int} (h : mo_In z) : (Int32.ofInt z).toInt = z := by rw [Int32.toInt_ofInt, mo_bm h]
theorem mo_tl {z : Int} (h : mo_Jn z) : (Int64.ofInt z).toInt = z := by rw [Int64.toInt_ofInt, mo_bl h]
theorem mo_ri (x : Int32) : mo_In x.toInt := by
  have h1 := Int32.le_toInt x
  have h2 := Int32.toInt_lt x
  omega
theorem mo_of (x : Int32) : Value.int x = mo_iv x.toInt := by rw [mo_iv, Int32.ofInt_toInt]
theorem mo_le {x y : Int} (hx : mo_In x) (hy : mo_In y) : Int32.ofInt x ≤ Int32.ofInt y ↔ x ≤ y := by rw [Int32.le_iff_toInt_le, mo_ti hx, mo_ti hy]
theorem mo_lt {x y : Int} (hx : mo_In x) (hy : mo_In y) : Int32.ofInt x < Int32.ofInt y ↔ x < y := by rw [Int32.lt_iff_toInt_lt, mo_ti hx, mo_ti hy]
theorem mo_eq {x y : Int} (hx : mo_In x) (hy : mo_In y) : Int32.ofInt x = Int32.ofInt y ↔ x = y := by rw [← Int32.toInt_inj, mo_ti hx, mo_ti hy]
theorem mo_0 : (0 : Int32) = Int32.ofInt 0 := by decide
theorem mo_cl {x : Int} (hx : mo_In x) (h0 : 0 ≤ x) : (Int32.ofInt x).toNatClampNeg = x.toNat := by
  rw [Int32.toNatClampNeg, mo_ti hx]
theorem mo_vin {x : Int} {n : Nat} (hx : mo_In x) (h0 : 0 ≤ x) (h1 : x < n) : vp_in (Int32.ofInt x) n := by
  intro h
  rcases h with h | h
  · rw [mo_0, mo_lt hx (by omega)] at h
    omega
  · rw [mo_cl hx h0] at h
    omega
/-! lists of locals by place -/
def mo_en : Nat → List (Option Value) → List (Nat × Value)
  | _, [] => []
  | i, none :: r => mo_en (i + 1) r
  | i, some v :: r => (i, v) :: mo_en (i + 1) r
theorem mo_en_in : ∀ (ls : List (Option Value)) (i n : Nat) (v : Value), ls[n]? = some (some v) → (i + n, v) ∈ mo_en i ls
  | [], _, _, _, h => by simp at h
  | none :: r, i, 0, v, h => by simp at h
  | none :: r, i, n + 1, v, h => by
    have h2 := mo_en_in r (i + 1) n v (by simpa using h)
    rw [show i + (n + 1) = i + 1 + n by omega]
    exact h2
  | some z :: r, i, 0, v, h => by
    simp at h
    subst h
    exact List.mem_cons_self
  | some z :: r, i, n + 1, v, h => by
    have h2 := mo_en_in r (i + 1) n v (by simpa using h)
    rw [show i + (n + 1) = i + 1 + n by omega]
    exact List.mem_cons_of_mem _ h2
theorem mo_en_of : ∀ (ls : List (Option Value)) (i : Nat) (q : Nat × Value), q ∈ mo_en i ls → ∃ n, q.1 = i + n ∧ ls[n]? = some (some q.2)
  | [], _, _, h => by simp [mo_en] at h
  | none :: r, i, q, h => by
    obtain ⟨n, h1, h2⟩ := mo_en_of r (i + 1) q h
    exact ⟨n + 1, by omega, by simpa using h2⟩
  | some z :: r, i, q, h => by
    rcases List.mem_cons.mp h with h | h
    · exact ⟨0, by rw [h]; rfl, by rw [h]; rfl⟩
    · obtain ⟨n, h1, h2⟩ := mo_en_of r (i + 1) q h
      exact ⟨n + 1, by omega, by simpa using h2⟩
theorem mo_ld {lr : Array Slot} {nL : Nat} {ls : List (Option Value)} (h : lv_has lr nL (mo_en 0 ls)) {n : Nat} {v : Value} (hn : ls[n]? = some (some v)) : lr[n]? = some (.val v) := by
  have h1 := h.2.2 _ (mo_en_in ls 0 n v hn)
  simpa using h1
theorem mo_lhs {lr : Array Slot} {nL : Nat} {l l' : List (Nat × Value)} (h : lv_has lr nL l) (hs : ∀ q ∈ l', q ∈ l) : lv_has lr nL l' := ⟨h.1, h.2.1, fun q hq => h.2.2 q (hs q hq)⟩
def mo_c1 : Option Value → Bool
  | none => true
  | some v => !(v.category == 2)
theorem mo_stq {ls : List (Option Value)} {n : Nat} {v : Value} (hc : n = 0 ∨ ∃ o, ls[n - 1]? = some o ∧ mo_c1 o = true) (q : Nat × Value) (hq : q ∈ mo_en 0 (ls.set n (some v))) : q ∈ (n, v) :: (mo_en 0 ls).filter (fun q => !(q.1 == n) && !(q.1 + 1 == n && q.2.category == 2)) := by
  obtain ⟨j, h1, h2⟩ := mo_en_of _ _ _ hq
  rw [Nat.zero_add] at h1
  by_cases hj : j = n
  · subst hj
    have h3 : j < (ls.set j (some v)).length := (List.getElem?_eq_some_iff.mp h2).1
    rw [List.length_set] at h3
    rw [List.getElem?_set_self h3] at h2
    have h4 : v = q.2 := by simpa using h2
    have h5 : q = (j, v) := by rw [h4, ← h1]
    rw [h5]
    exact List.mem_cons_self
  · rw [List.getElem?_set_ne (fun h => hj h.symm)] at h2
    refine List.mem_cons_of_mem _ (List.mem_filter.mpr ⟨?_, ?_⟩)
    · have h3 := mo_en_in ls 0 j q.2 h2
      rw [Nat.zero_add, ← h1] at h3
      exact h3
    · have a1 : (q.1 == n) = false := by simp; omega
      have a2 : (q.1 + 1 == n && q.2.category == 2) = false := by
        by_cases h6 : q.1 + 1 = n
        · rcases hc with hc | ⟨o, ho, hc⟩
          · omega
          · rw [show n - 1 = j by omega, h2] at ho
            cases ho
            simp only [mo_c1, Bool.not_eq_true'] at hc
            rw [hc, Bool.and_false]
        · have h7 : (q.1 + 1 == n) = false := by simpa using h6
          rw [h7, Bool.false_and]
      rw [a1, a2]
      rfl
theorem mo_stq2 {ls : List (Option Value)} {n : Nat} {v : Value} (hc : n = 0 ∨ ∃ o, ls[n - 1]? = some o ∧ mo_c1 o = true) (q : Nat × Value) (hq : q ∈ mo_en 0 ((ls.set n (some v)).set (n + 1) none)) : q ∈ (n, v) :: (mo_en 0 ls).filter (fun q => !(q.1 == n) && (!(q.1 == n + 1) && !(q.1 + 1 == n && q.2.category == 2))) := by
  obtain ⟨j, h1, h2⟩ := mo_en_of _ _ _ hq
  rw [Nat.zero_add] at h1
  by_cases hj1 : j = n + 1
  · subst hj1
    by_cases h3 : n + 1 < (ls.set n (some v)).length
    · rw [List.getElem?_set_self h3] at h2
      simp at h2
    · rw [List.getElem?_eq_none (by rw [List.length_set]; omega)] at h2
      cases h2
  · rw [List.getElem?_set_ne (fun h => hj1 h.symm)] at h2
    have h4 : q ∈ mo_en 0 (ls.set n (some v)) := by
      have h3 := mo_en_in _ 0 j q.2 h2
      rw [Nat.zero_add, ← h1] at h3
      exact h3
    rcases List.mem_cons.mp (mo_stq hc q h4) with h5 | h5
    · rw [h5]
      exact List.mem_cons_self
    · obtain ⟨h6, h7⟩ := List.mem_filter.mp h5
      refine List.mem_cons_of_mem _ (List.mem_filter.mpr ⟨h6, ?_⟩)
      simp only [Bool.and_eq_true] at h7 ⊢
      refine ⟨h7.1, ?_, h7.2⟩
      have h8 : q.1 ≠ n + 1 := by omega
      simpa using h8
/-! memory and cells -/
theorem mo_one {D : va_G} {cl : List vw_C} {q : Nat × va_E} {H : Heap} (h : va_at D cl q H) : va_P D cl [q] H := by
  intro k x hx
  have h1 : k < 1 := (List.getElem?_eq_some_iff.mp hx).1
  obtain rfl : k = 0 := by omega
  cases hx
  exact h
theorem mo_fs_at (G : mo_G) (M : mo_M) (a ci : Nat) {k : Nat} (hk : k < mo_fn ci) : (mo_fs G M a ci)[k]? = some (mo_fv G M a ci k) := by
  simp [mo_fs, hk]
theorem mo_fs_len (G : mo_G) (M : mo_M) (a ci : Nat) : (mo_fs G M a ci).length = mo_fn ci := by simp [mo_fs]
theorem mo_fs_set (G G' : mo_G) (M M' : mo_M) (a ci k : Nat) (v : Value) (h1 : mo_fv G' M' a ci k = v) (h2 : ∀ j, j ≠ k → mo_fv G' M' a ci j = mo_fv G M a ci j) : (mo_fs G M a ci).set k v = mo_fs G' M' a ci := by
  apply List.ext_getElem?
  intro j
  by_cases hj : j < mo_fn ci
  · rw [mo_fs_at G' M' a ci hj]
    by_cases hjk : j = k
    · subst hjk
      rw [List.getElem?_set_self (by rw [mo_fs_len]; exact hj), h1]
    · rw [List.getElem?_set_ne (fun h => hjk h.symm), mo_fs_at G M a ci hj, h2 j hjk]
  · rw [List.getElem?_eq_none (by rw [List.length_set, mo_fs_len]; omega), List.getElem?_eq_none (by rw [mo_fs_len]; omega)]
theorem mo_el_ne (ρ : mo_E) (G : mo_G) (M M' : mo_M) (a : Nat) (e : mo_Kd) (h : M' a = M a) : mo_el ρ G M' a e = mo_el ρ G M a e := by
  have hf : mo_fs G M' a = mo_fs G M a := by
    funext ci
    unfold mo_fs
    congr 1
    funext k
    unfold mo_fv
    rw [h]
  rcases e with ci | ⟨t, n⟩
  · show Sum.inr _ = Sum.inr _
    rw [hf]
  · match t with
    | 0 => show Sum.inl _ = Sum.inl _; rw [h]
    | 1 => show Sum.inl _ = Sum.inl _; rw [h]
    | t + 2 => rfl
/-- after a write at one cell: the others stay -/
theorem mo_R_set {ρ : mo_E} {G : mo_G} {M : mo_M} {H H1 : Heap} {a : Nat} {f : Nat → Int} {e : mo_Kd} (hR : mo_R ρ G M H) (he : G.1 a = some e) (h1 : va_at ρ.1 vwCl (a, mo_el ρ G (mo_ur M a f) a e) H1) (h2 : ∀ q, q ≠ a → H1[q]? = H[q]?) : mo_R ρ G (mo_ur M a f) H1 := by
  intro b e' hb
  by_cases hba : b = a
  · subst hba
    cases he.symm.trans hb
    exact ⟨(hR b e hb).1, h1⟩
  · refine ⟨(hR b e' hb).1, ?_⟩
    rw [mo_el_ne ρ G M _ b e' (mo_ur_n hba)]
    exact (hR b e' hb).2.kept (h2 b hba)
abbrev mo_T : Type := (Program × Launch × Env × Room × State) × (MethodId × Array Value × List Frame × Method × Code) × (State → Prop) × mo_E
def mo_V (κ : mo_T) (k n pc : Nat) (ls : List (Option Value)) (st : List Value) (G : mo_G) (M : mo_M) (t : Nat) : Prop := match κ with
  | ((p, l, e, R, s), (m, args, below, meth, c), Q, ρ) => ∀ (H : Heap) (locs : List Loc) (lr : Array Slot), H.size = t → mo_R ρ G M H → va_S (fun q => ρ.2.2 ≤ q) s.heap H locs → lv_has lr c.maxLocals (mo_en 0 ls) → W p l e R s m args below meth c H locs k n Q (F0 m pc lr st)
/-- what a walk stands on: machine, code, words, tables, room of depth d -/
def mo_Cx (κ : mo_T) (lf : Launch) (ρf : mo_E) (cc : ByteArray) (nL : Nat) (own : String) (ret : Option FieldType) (d : Nat) : Prop := match κ with
  | ((p, l, e, R, s), (m, args, below, meth, c), Q, ρ) => p.tables.exec = Jvm.exec ∧ c.code = cc ∧ c.maxLocals = nL ∧ s.vm.findClass own = some m.cls ∧ (∀ w ∈ mo_B, w.before args s = true) ∧ mo_K ρ s ∧ meth.locks = false ∧ meth.sig.returnType = ret ∧ ρ.2.2 ≤ s.heap.size ∧ d ≤ R.frames ∧ 30 * d ≤ R.locals ∧ l = lf ∧ ρ = ρf
def mo_fr (ρ : mo_E) : Addr → Prop := fun q => ρ.2.2 ≤ q
def mo_Qc (ρ : mo_E) (post : Option Value → mo_G → mo_M → Nat → Prop) : Array Value → State → Outcome → State → Prop := fun _ st oc u => (∃ (v : Option Value) (G : mo_G) (M : mo_M), oc = .returned v ∧ post v G M u.heap.size ∧ mo_R ρ G M u.heap) ∧ va_F (fun q => ρ.2.2 ≤ q) st u
def mo_Rt (κ : mo_T) (post : Option Value → mo_G → mo_M → Nat → Prop) (kc ks : Nat) : Prop := match κ with
  | ((_, _, _, _, s), (_, args, below, _, _), Q, ρ) => Q = MQ below (mo_Qc ρ post) args s kc ks (mo_fr ρ)
def mo_ws (y : MethodName) (cc : ByteArray) (maxL : Nat) (ret : Option FieldType) : List Cond := Cond.code y cc maxL ret :: mo_B
def mo_rm (d kc ks : Nat) : Room := { frames := d, cells := kc, slots := ks, locals := 30 * d }
def mo_Bc (ρ : mo_E) (G : mo_G) (M : mo_M) (t : Nat) : State → Prop := fun U => U.heap.size = t ∧ mo_R ρ G M U.heap ∧ mo_K ρ U ∧ ρ.2.2 ≤ t
def mo_Ct (l : Launch) (ρ : mo_E) (y : MethodName) (cc : ByteArray) (maxL : Nat) (ret : Option FieldType) (d kc ks : Nat) (av : List Value) (G : mo_G) (M : mo_M) (t : Nat) (post : Option Value → mo_G → mo_M → Nat → Prop) : Prop :=
  Met l y (mo_ws y cc maxL ret) (mo_rm d kc ks) (va_Pc av (mo_Bc ρ G M t)) (mo_Qc ρ post) kc ks (mo_fr ρ)
theorem mo_ofW {l : Launch} {ρ : mo_E} {y : MethodName} {cc : ByteArray} {maxL d kc ks : Nat} {ret : Option FieldType} {av : List Value} {G : mo_G} {M : mo_M} {t : Nat} {post : Option Value → mo_G → mo_M → Nat → Prop} {ls0 : List (Option Value)}
    (hy : plainName y.cls = true) (hls : mo_en 0 ls0 = lv_args 0 av) (hlen : (lg_sl av).length ≤ maxL)
    (body : ∀ κ : mo_T, mo_Cx κ l ρ cc maxL y.cls ret d → mo_Rt κ post kc ks → mo_V κ 0 0 0 ls0 [] G M t) : mo_Ct l ρ y cc maxL ret d kc ks av G M t post := by
  refine Met.ofW (cc := cc) (maxL := maxL) (ret := ret) hy rfl ?_
  intro p e s m args below meth c s₁ B hml hv
  obtain ⟨rfl, hsz, hR, hK, hb0⟩ := hv
  have hl := lv_entry av (n := maxL) hlen
  rw [lg_entry_eq]
  have hts := atoms_spec (ws := mo_ws y cc maxL ret) B.pre
  refine body ((p, l, e, mo_rm d kc ks, s), (m, av.toArray, below, meth, c), MQ below (mo_Qc ρ post) av.toArray s kc ks (mo_fr ρ), ρ) ⟨B.exec, B.bytes, hml, findClass_of_methodNamed B.named, fun w h => hts w (List.mem_cons_of_mem _ h), hK, B.notSynchronized, B.returns, by rw [hsz]; exact hb0, Nat.le_refl _, Nat.le_refl _, rfl, rfl⟩ rfl s.heap [] _ hsz hR va_S.rf ?_
  rw [hls, hml]
  exact hl

section MOR
variable {κ : mo_T} {lf : Launch} {ρf : mo_E} {cc : ByteArray} {nL : Nat} {own : String} {ret : Option FieldType} {d k n pc : Nat} {ls : List (Option Value)} {st : List Value} {G : mo_G} {M : mo_M} {t : Nat}

theorem mo_iconst (X : mo_Cx κ lf ρf cc nL own ret d) {v : Int} (hd : decode cc pc = .ok (.iconst v, 1)) (kk : mo_V κ k n (pc + 1) ls (mo_iv v :: st) G M t) : mo_V κ k n pc ls st G M t := by
  obtain ⟨⟨p, l, e, R, s⟩, ⟨m, args, below, meth, c⟩, Q, ρ⟩ := κ
  obtain ⟨hx, hb, hml, hown, hts, hK, hlk, hrt, hb0, hRf, hRl, hlf, hρ⟩ := X
  intro H locs lr ht hR hS hl
  exact lv_iconst hx hb hd rfl (kk H locs lr ht hR hS hl)
theorem mo_bipush (X : mo_Cx κ lf ρf cc nL own ret d) {v : Int} (hd : decode cc pc = .ok (.bipush v, 2)) (hv : (Int8.ofInt v).toInt32 = Int32.ofInt v) (kk : mo_V κ k n (pc + 2) ls (mo_iv v :: st) G M t) : mo_V κ k n pc ls st G M t := by
  obtain ⟨⟨p, l, e, R, s⟩, ⟨m, args, below, meth, c⟩, Q, ρ⟩ := κ
  obtain ⟨hx, hb, hml, hown, hts, hK, hlk, hrt, hb0, hRf, hRl, hlf, hρ⟩ := X
  intro H locs lr ht hR hS hl
  exact lv_bipush hx hb hd hv (kk H locs lr ht hR hS hl)
theorem mo_sipush (X : mo_Cx κ lf ρf cc nL own ret d) {v : Int} (hd : decode cc pc = .ok (.sipush v, 3)) (hv : (Int16.ofInt v).toInt32 = Int32.ofInt v) (kk : mo_V κ k n (pc + 3) ls (mo_iv v :: st) G M t) : mo_V κ k n pc ls st G M t := by
  obtain ⟨⟨p, l, e, R, s⟩, ⟨m, args, below, meth, c⟩, Q, ρ⟩ := κ
  obtain ⟨hx, hb, hml, hown, hts, hK, hlk, hrt, hb0, hRf, hRl, hlf, hρ⟩ := X
  intro H locs lr ht hR hS hl
  exact lv_sipush hx hb hd hv (kk H locs lr ht hR hS hl)
theorem mo_ldc (X : mo_Cx κ lf ρf cc nL own ret d) {i : Nat} {v : Int} (hd : decode cc pc = .ok (.ldc i, 2)) (hw : Cond.constant own i (Int32.ofInt v) ∈ mo_B) (kk : mo_V κ k n (pc + 2) ls (mo_iv v :: st) G M t) : mo_V κ k n pc ls st G M t := by
  obtain ⟨⟨p, l, e, R, s⟩, ⟨m, args, below, meth, c⟩, Q, ρ⟩ := κ
  obtain ⟨hx, hb, hml, hown, hts, hK, hlk, hrt, hb0, hRf, hRl, hlf, hρ⟩ := X
  intro H locs lr ht hR hS hl
  exact lv_ldc hx hb hown (hts _ hw) hd (kk H locs lr ht hR hS hl)
theorem mo_ldc2 (X : mo_Cx κ lf ρf cc nL own ret d) {i : Nat} {v : Int} (hd : decode cc pc = .ok (.ldc2_w i, 3)) (hw : Cond.constantLong own i (Int64.ofInt v) ∈ mo_B) (kk : mo_V κ k n (pc + 3) ls (mo_jv v :: st) G M t) : mo_V κ k n pc ls st G M t := by
  obtain ⟨⟨p, l, e, R, s⟩, ⟨m, args, below, meth, c⟩, Q, ρ⟩ := κ
  obtain ⟨hx, hb, hml, hown, hts, hK, hlk, hrt, hb0, hRf, hRl, hlf, hρ⟩ := X
  intro H locs lr ht hR hS hl
  exact lv_ldc2 hx hb hown (hts _ hw) hd (kk H locs lr ht hR hS hl)
theorem mo_lconst (X : mo_Cx κ lf ρf cc nL own ret d) {v : Fin 2} {z : Int} (hd : decode cc pc = .ok (.lconst v, 1)) (hz : Int64.ofNat (v : Nat) = Int64.ofInt z) (kk : mo_V κ k n (pc + 1) ls (mo_jv z :: st) G M t) : mo_V κ k n pc ls st G M t := by
  obtain ⟨⟨p, l, e, R, s⟩, ⟨m, args, below, meth, c⟩, Q, ρ⟩ := κ
  obtain ⟨hx, hb, hml, hown, hts, hK, hlk, hrt, hb0, hRf, hRl, hlf, hρ⟩ := X
  intro H locs lr ht hR hS hl
  exact lv_lconst hx hb hd hz (kk H locs lr ht hR hS hl)
theorem mo_iload_n (X : mo_Cx κ lf ρf cc nL own ret d) {i : Fin 4} {x : Int} (hd : decode cc pc = .ok (.iload_n i, 1)) (hn : ls[(i : Nat)]? = some (some (mo_iv x))) (kk : mo_V κ k n (pc + 1) ls (mo_iv x :: st) G M t) : mo_V κ k n pc ls st G M t := by
  obtain ⟨⟨p, l, e, R, s⟩, ⟨m, args, below, meth, c⟩, Q, ρ⟩ := κ
  obtain ⟨hx, hb, hml, hown, hts, hK, hlk, hrt, hb0, hRf, hRl, hlf, hρ⟩ := X
  intro H locs lr ht hR hS hl
  exact lv_iload_n hx hb hd rfl (mo_ld hl hn) (kk H locs lr ht hR hS hl)
theorem mo_iload (X : mo_Cx κ lf ρf cc nL own ret d) {i : Nat} {x : Int} (hd : decode cc pc = .ok (.iload i, 2)) (hn : ls[i]? = some (some (mo_iv x))) (kk : mo_V κ k n (pc + 2) ls (mo_iv x :: st) G M t) : mo_V κ k n pc ls st G M t := by
  obtain ⟨⟨p, l, e, R, s⟩, ⟨m, args, below, meth, c⟩, Q, ρ⟩ := κ
  obtain ⟨hx, hb, hml, hown, hts, hK, hlk, hrt, hb0, hRf, hRl, hlf, hρ⟩ := X
  intro H locs lr ht hR hS hl
  exact lv_iload hx hb hd (mo_ld hl hn) (kk H locs lr ht hR hS hl)
theorem mo_aload_n (X : mo_Cx κ lf ρf cc nL own ret d) {i : Fin 4} {x : Nat} (hd : decode cc pc = .ok (.aload_n i, 1)) (hn : ls[(i : Nat)]? = some (some (.ref x))) (kk : mo_V κ k n (pc + 1) ls (.ref x :: st) G M t) : mo_V κ k n pc ls st G M t := by
  obtain ⟨⟨p, l, e, R, s⟩, ⟨m, args, below, meth, c⟩, Q, ρ⟩ := κ
  obtain ⟨hx, hb, hml, hown, hts, hK, hlk, hrt, hb0, hRf, hRl, hlf, hρ⟩ := X
  intro H locs lr ht hR hS hl
  exact lv_aload_n hx hb hd rfl (mo_ld hl hn) (kk H locs lr ht hR hS hl)
theorem mo_aload (X : mo_Cx κ lf ρf cc nL own ret d) {i : Nat} {x : Nat} (hd : decode cc pc = .ok (.aload i, 2)) (hn : ls[i]? = some (some (.ref x))) (kk : mo_V κ k n (pc + 2) ls (.ref x :: st) G M t) : mo_V κ k n pc ls st G M t := by
  obtain ⟨⟨p, l, e, R, s⟩, ⟨m, args, below, meth, c⟩, Q, ρ⟩ := κ
  obtain ⟨hx, hb, hml, hown, hts, hK, hlk, hrt, hb0, hRf, hRl, hlf, hρ⟩ := X
  intro H locs lr ht hR hS hl
  exact lv_aload hx hb hd (mo_ld hl hn) (kk H locs lr ht hR hS hl)
theorem mo_lload_n (X : mo_Cx κ lf ρf cc nL own ret d) {i : Fin 4} {x : Int} (hd : decode cc pc = .ok (.lload_n i, 1)) (hn : ls[(i : Nat)]? = some (some (mo_jv x))) (kk : mo_V κ k n (pc + 1) ls (mo_jv x :: st) G M t) : mo_V κ k n pc ls st G M t := by
  obtain ⟨⟨p, l, e, R, s⟩, ⟨m, args, below, meth, c⟩, Q, ρ⟩ := κ
  obtain ⟨hx, hb, hml, hown, hts, hK, hlk, hrt, hb0, hRf, hRl, hlf, hρ⟩ := X
  intro H locs lr ht hR hS hl
  exact lv_lload_n hx hb hd rfl (mo_ld hl hn) (kk H locs lr ht hR hS hl)
theorem mo_lload (X : mo_Cx κ lf ρf cc nL own ret d) {i : Nat} {x : Int} (hd : decode cc pc = .ok (.lload i, 2)) (hn : ls[i]? = some (some (mo_jv x))) (kk : mo_V κ k n (pc + 2) ls (mo_jv x :: st) G M t) : mo_V κ k n pc ls st G M t := by
  obtain ⟨⟨p, l, e, R, s⟩, ⟨m, args, below, meth, c⟩, Q, ρ⟩ := κ
  obtain ⟨hx, hb, hml, hown, hts, hK, hlk, hrt, hb0, hRf, hRl, hlf, hρ⟩ := X
  intro H locs lr ht hR hS hl
  exact lv_lload hx hb hd (mo_ld hl hn) (kk H locs lr ht hR hS hl)
theorem mo_istore_n (X : mo_Cx κ lf ρf cc nL own ret d) {z : Fin 4} {i : Nat} {x : Int} (hd : decode cc pc = .ok (.istore_n z, 1)) (hz : (z : Nat) = i) (hc : i = 0 ∨ ∃ o, ls[i - 1]? = some o ∧ mo_c1 o = true) (hi : i < nL) (kk : mo_V κ k n (pc + 1) (ls.set i (some (mo_iv x))) st G M t) : mo_V κ k n pc ls (mo_iv x :: st) G M t := by
  obtain ⟨⟨p, l, e, R, s⟩, ⟨m, args, below, meth, c⟩, Q, ρ⟩ := κ
  obtain ⟨hx, hb, hml, hown, hts, hK, hlk, hrt, hb0, hRf, hRl, hlf, hρ⟩ := X
  intro H locs lr ht hR hS hl
  exact lv_istore_n hx hb hd hz hl (by rw [hml]; exact hi) rfl (fun lr1 hl1 => kk H locs lr1 ht hR hS (mo_lhs hl1 (mo_stq hc)))
theorem mo_istore (X : mo_Cx κ lf ρf cc nL own ret d) {i : Nat} {x : Int} (hd : decode cc pc = .ok (.istore i, 2)) (hc : i = 0 ∨ ∃ o, ls[i - 1]? = some o ∧ mo_c1 o = true) (hi : i < nL) (kk : mo_V κ k n (pc + 2) (ls.set i (some (mo_iv x))) st G M t) : mo_V κ k n pc ls (mo_iv x :: st) G M t := by
  obtain ⟨⟨p, l, e, R, s⟩, ⟨m, args, below, meth, c⟩, Q, ρ⟩ := κ
  obtain ⟨hx, hb, hml, hown, hts, hK, hlk, hrt, hb0, hRf, hRl, hlf, hρ⟩ := X
  intro H locs lr ht hR hS hl
  exact lv_istore hx hb hd hl (by rw [hml]; exact hi) rfl (fun lr1 hl1 => kk H locs lr1 ht hR hS (mo_lhs hl1 (mo_stq hc)))
theorem mo_astore_n (X : mo_Cx κ lf ρf cc nL own ret d) {z : Fin 4} {i x : Nat} (hd : decode cc pc = .ok (.astore_n z, 1)) (hz : (z : Nat) = i) (hc : i = 0 ∨ ∃ o, ls[i - 1]? = some o ∧ mo_c1 o = true) (hi : i < nL) (kk : mo_V κ k n (pc + 1) (ls.set i (some (.ref x))) st G M t) : mo_V κ k n pc ls (.ref x :: st) G M t := by
  obtain ⟨⟨p, l, e, R, s⟩, ⟨m, args, below, meth, c⟩, Q, ρ⟩ := κ
  obtain ⟨hx, hb, hml, hown, hts, hK, hlk, hrt, hb0, hRf, hRl, hlf, hρ⟩ := X
  intro H locs lr ht hR hS hl
  exact lv_astore_n hx hb hd hz hl (by rw [hml]; exact hi) rfl (fun lr1 hl1 => kk H locs lr1 ht hR hS (mo_lhs hl1 (mo_stq hc)))
theorem mo_astore (X : mo_Cx κ lf ρf cc nL own ret d) {i x : Nat} (hd : decode cc pc = .ok (.astore i, 2)) (hc : i = 0 ∨ ∃ o, ls[i - 1]? = some o ∧ mo_c1 o = true) (hi : i < nL) (kk : mo_V κ k n (pc + 2) (ls.set i (some (.ref x))) st G M t) : mo_V κ k n pc ls (.ref x :: st) G M t := by
  obtain ⟨⟨p, l, e, R, s⟩, ⟨m, args, below, meth, c⟩, Q, ρ⟩ := κ
  obtain ⟨hx, hb, hml, hown, hts, hK, hlk, hrt, hb0, hRf, hRl, hlf, hρ⟩ := X
  intro H locs lr ht hR hS hl
  exact lv_astore hx hb hd hl (by rw [hml]; exact hi) rfl (fun lr1 hl1 => kk H locs lr1 ht hR hS (mo_lhs hl1 (mo_stq hc)))
theorem mo_lstore_n (X : mo_Cx κ lf ρf cc nL own ret d) {z : Fin 4} {i : Nat} {x : Int} (hd : decode cc pc = .ok (.lstore_n z, 1)) (hz : (z : Nat) = i) (hc : i = 0 ∨ ∃ o, ls[i - 1]? = some o ∧ mo_c1 o = true) (hi : i + 1 < nL) (kk : mo_V κ k n (pc + 1) ((ls.set i (some (mo_jv x))).set (i + 1) none) st G M t) : mo_V κ k n pc ls (mo_jv x :: st) G M t := by
  obtain ⟨⟨p, l, e, R, s⟩, ⟨m, args, below, meth, c⟩, Q, ρ⟩ := κ
  obtain ⟨hx, hb, hml, hown, hts, hK, hlk, hrt, hb0, hRf, hRl, hlf, hρ⟩ := X
  intro H locs lr ht hR hS hl
  exact lv_lstore_n hx hb hd hz hl (by rw [hml]; exact hi) rfl (fun lr1 hl1 => kk H locs lr1 ht hR hS (mo_lhs hl1 (mo_stq2 hc)))
theorem mo_lstore (X : mo_Cx κ lf ρf cc nL own ret d) {i : Nat} {x : Int} (hd : decode cc pc = .ok (.lstore i, 2)) (hc : i = 0 ∨ ∃ o, ls[i - 1]? = some o ∧ mo_c1 o = true) (hi : i + 1 < nL) (kk : mo_V κ k n (pc + 2) ((ls.set i (some (mo_jv x))).set (i + 1) none) st G M t) : mo_V κ k n pc ls (mo_jv x :: st) G M t := by
  obtain ⟨⟨p, l, e, R, s⟩, ⟨m, args, below, meth, c⟩, Q, ρ⟩ := κ
  obtain ⟨hx, hb, hml, hown, hts, hK, hlk, hrt, hb0, hRf, hRl, hlf, hρ⟩ := X
  intro H locs lr ht hR hS hl
  exact lv_lstore hx hb hd hl (by rw [hml]; exact hi) rfl (fun lr1 hl1 => kk H locs lr1 ht hR hS (mo_lhs hl1 (mo_stq2 hc)))
theorem mo_iinc (X : mo_Cx κ lf ρf cc nL own ret d) {i : Nat} {v x : Int} (hd : decode cc pc = .ok (.iinc i v, 3)) (hn : ls[i]? = some (some (mo_iv x))) (hc : i = 0 ∨ ∃ o, ls[i - 1]? = some o ∧ mo_c1 o = true) (hi : i < nL) (kk : mo_V κ k n (pc + 3) (ls.set i (some (mo_iv (x + v)))) st G M t) : mo_V κ k n pc ls st G M t := by
  obtain ⟨⟨p, l, e, R, s⟩, ⟨m, args, below, meth, c⟩, Q, ρ⟩ := κ
  obtain ⟨hx, hb, hml, hown, hts, hK, hlk, hrt, hb0, hRf, hRl, hlf, hρ⟩ := X
  intro H locs lr ht hR hS hl
  obtain ⟨q, hq⟩ := List.getElem?_of_mem (mo_en_in ls 0 i _ hn)
  rw [Nat.zero_add] at hq
  exact lv_iinc (x := Int32.ofInt x) (v := Int32.ofInt (x + v)) hx hb hd hl hq (by rw [Int32.ofInt_add]) (by rw [hml]; exact hi) rfl (fun lr1 hl1 => kk H locs lr1 ht hR hS (mo_lhs hl1 (mo_stq hc)))
theorem mo_il0 {r : List (Option Value)} {x : Int} (X : mo_Cx κ lf ρf cc nL own ret d) (hd : decode cc pc = .ok (.iload_n 0, 1)) (kk : mo_V κ k n (pc + 1) (some (mo_iv x) :: r) (mo_iv x :: st) G M t) : mo_V κ k n pc (some (mo_iv x) :: r) st G M t := mo_iload_n X hd rfl kk
theorem mo_al0 {r : List (Option Value)} {x : Nat} (X : mo_Cx κ lf ρf cc nL own ret d) (hd : decode cc pc = .ok (.aload_n 0, 1)) (kk : mo_V κ k n (pc + 1) (some (.ref x) :: r) (.ref x :: st) G M t) : mo_V κ k n pc (some (.ref x) :: r) st G M t := mo_aload_n X hd rfl kk
theorem mo_ll0 {r : List (Option Value)} {x : Int} (X : mo_Cx κ lf ρf cc nL own ret d) (hd : decode cc pc = .ok (.lload_n 0, 1)) (kk : mo_V κ k n (pc + 1) (some (mo_jv x) :: r) (mo_jv x :: st) G M t) : mo_V κ k n pc (some (mo_jv x) :: r) st G M t := mo_lload_n X hd rfl kk
theorem mo_is0 {o : Option Value} {r : List (Option Value)} {x : Int} (X : mo_Cx κ lf ρf cc nL own ret d) (hd : decode cc pc = .ok (.istore_n 0, 1)) (hi : 0 < nL) (kk : mo_V κ k n (pc + 1) (some (mo_iv x) :: r) st G M t) : mo_V κ k n pc (o :: r) (mo_iv x :: st) G M t := mo_istore_n X hd rfl (Or.inl rfl) hi kk
theorem mo_as0 {o : Option Value} {r : List (Option Value)} {x : Nat} (X : mo_Cx κ lf ρf cc nL own ret d) (hd : decode cc pc = .ok (.astore_n 0, 1)) (hi : 0 < nL) (kk : mo_V κ k n (pc + 1) (some (.ref x) :: r) st G M t) : mo_V κ k n pc (o :: r) (.ref x :: st) G M t := mo_astore_n X hd rfl (Or.inl rfl) hi kk
theorem mo_ls0 {o o1 : Option Value} {r : List (Option Value)} {x : Int} (X : mo_Cx κ lf ρf cc nL own ret d) (hd : decode cc pc = .ok (.lstore_n 0, 1)) (hi : 0 + 1 < nL) (kk : mo_V κ k n (pc + 1) (some (mo_jv x) :: none :: r) st G M t) : mo_V κ k n pc (o :: o1 :: r) (mo_jv x :: st) G M t := mo_lstore_n X hd rfl (Or.inl rfl) hi kk
theorem mo_ii0 {r : List (Option Value)} {v x : Int} (X : mo_Cx κ lf ρf cc nL own ret d) (hd : decode cc pc = .ok (.iinc 0 v, 3)) (hi : 0 < nL) (kk : mo_V κ k n (pc + 3) (some (mo_iv (x + v)) :: r) st G M t) : mo_V κ k n pc (some (mo_iv x) :: r) st G M t := mo_iinc X hd rfl (Or.inl rfl) hi kk
theorem mo_il1 {a0 : Option Value} {r : List (Option Value)} {x : Int} (X : mo_Cx κ lf ρf cc nL own ret d) (hd : decode cc pc = .ok (.iload_n 1, 1)) (kk : mo_V κ k n (pc + 1) (a0 :: some (mo_iv x) :: r) (mo_iv x :: st) G M t) : mo_V κ k n pc (a0 :: some (mo_iv x) :: r) st G M t := mo_iload_n X hd rfl kk
theorem mo_al1 {a0 : Option Value} {r : List (Option Value)} {x : Nat} (X : mo_Cx κ lf ρf cc nL own ret d) (hd : decode cc pc = .ok (.aload_n 1, 1)) (kk : mo_V κ k n (pc + 1) (a0 :: some (.ref x) :: r) (.ref x :: st) G M t) : mo_V κ k n pc (a0 :: some (.ref x) :: r) st G M t := mo_aload_n X hd rfl kk
theorem mo_ll1 {a0 : Option Value} {r : List (Option Value)} {x : Int} (X : mo_Cx κ lf ρf cc nL own ret d) (hd : decode cc pc = .ok (.lload_n 1, 1)) (kk : mo_V κ k n (pc + 1) (a0 :: some (mo_jv x) :: r) (mo_jv x :: st) G M t) : mo_V κ k n pc (a0 :: some (mo_jv x) :: r) st G M t := mo_lload_n X hd rfl kk
theorem mo_is1 {a0 : Option Value} {o : Option Value} {r : List (Option Value)} {x : Int} (X : mo_Cx κ lf ρf cc nL own ret d) (hd : decode cc pc = .ok (.istore_n 1, 1)) (hc : mo_c1 a0 = true) (hi : 1 < nL) (kk : mo_V κ k n (pc + 1) (a0 :: some (mo_iv x) :: r) st G M t) : mo_V κ k n pc (a0 :: o :: r) (mo_iv x :: st) G M t := mo_istore_n X hd rfl (Or.inr ⟨_, rfl, hc⟩) hi kk
theorem mo_as1 {a0 : Option Value} {o : Option Value} {r : List (Option Value)} {x : Nat} (X : mo_Cx κ lf ρf cc nL own ret d) (hd : decode cc pc = .ok (.astore_n 1, 1)) (hc : mo_c1 a0 = true) (hi : 1 < nL) (kk : mo_V κ k n (pc + 1) (a0 :: some (.ref x) :: r) st G M t) : mo_V κ k n pc (a0 :: o :: r) (.ref x :: st) G M t := mo_astore_n X hd rfl (Or.inr ⟨_, rfl, hc⟩) hi kk
theorem mo_ls1 {a0 : Option Value} {o o1 : Option Value} {r : List (Option Value)} {x : Int} (X : mo_Cx κ lf ρf cc nL own ret d) (hd : decode cc pc = .ok (.lstore_n 1, 1)) (hc : mo_c1 a0 = true) (hi : 1 + 1 < nL) (kk : mo_V κ k n (pc + 1) (a0 :: some (mo_jv x) :: none :: r) st G M t) : mo_V κ k n pc (a0 :: o :: o1 :: r) (mo_jv x :: st) G M t := mo_lstore_n X hd rfl (Or.inr ⟨_, rfl, hc⟩) hi kk
theorem mo_ii1 {a0 : Option Value} {r : List (Option Value)} {v x : Int} (X : mo_Cx κ lf ρf cc nL own ret d) (hd : decode cc pc = .ok (.iinc 1 v, 3)) (hc : mo_c1 a0 = true) (hi : 1 < nL) (kk : mo_V κ k n (pc + 3) (a0 :: some (mo_iv (x + v)) :: r) st G M t) : mo_V κ k n pc (a0 :: some (mo_iv x) :: r) st G M t := mo_iinc X hd rfl (Or.inr ⟨_, rfl, hc⟩) hi kk
theorem mo_il2 {a0 a1 : Option Value} {r : List (Option Value)} {x : Int} (X : mo_Cx κ lf ρf cc nL own ret d) (hd : decode cc pc = .ok (.iload_n 2, 1)) (kk : mo_V κ k n (pc + 1) (a0 :: a1 :: some (mo_iv x) :: r) (mo_iv x :: st) G M t) : mo_V κ k n pc (a0 :: a1 :: some (mo_iv x) :: r) st G M t := mo_iload_n X hd rfl kk
theorem mo_al2 {a0 a1 : Option Value} {r : List (Option Value)} {x : Nat} (X : mo_Cx κ lf ρf cc nL own ret d) (hd : decode cc pc = .ok (.aload_n 2, 1)) (kk : mo_V κ k n (pc + 1) (a0 :: a1 :: some (.ref x) :: r) (.ref x :: st) G M t) : mo_V κ k n pc (a0 :: a1 :: some (.ref x) :: r) st G M t := mo_aload_n X hd rfl kk
theorem mo_ll2 {a0 a1 : Option Value} {r : List (Option Value)} {x : Int} (X : mo_Cx κ lf ρf cc nL own ret d) (hd : decode cc pc = .ok (.lload_n 2, 1)) (kk : mo_V κ k n (pc + 1) (a0 :: a1 :: some (mo_jv x) :: r) (mo_jv x :: st) G M t) : mo_V κ k n pc (a0 :: a1 :: some (mo_jv x) :: r) st G M t := mo_lload_n X hd rfl kk
theorem mo_is2 {a0 a1 : Option Value} {o : Option Value} {r : List (Option Value)} {x : Int} (X : mo_Cx κ lf ρf cc nL own ret d) (hd : decode cc pc = .ok (.istore_n 2, 1)) (hc : mo_c1 a1 = true) (hi : 2 < nL) (kk : mo_V κ k n (pc + 1) (a0 :: a1 :: some (mo_iv x) :: r) st G M t) : mo_V κ k n pc (a0 :: a1 :: o :: r) (mo_iv x :: st) G M t := mo_istore_n X hd rfl (Or.inr ⟨_, rfl, hc⟩) hi kk
theorem mo_as2 {a0 a1 : Option Value} {o : Option Value} {r : List (Option Value)} {x : Nat} (X : mo_Cx κ lf ρf cc nL own ret d) (hd : decode cc pc = .ok (.astore_n 2, 1)) (hc : mo_c1 a1 = true) (hi : 2 < nL) (kk : mo_V κ k n (pc + 1) (a0 :: a1 :: some (.ref x) :: r) st G M t) : mo_V κ k n pc (a0 :: a1 :: o :: r) (.ref x :: st) G M t := mo_astore_n X hd rfl (Or.inr ⟨_, rfl, hc⟩) hi kk
theorem mo_ls2 {a0 a1 : Option Value} {o o1 : Option Value} {r : List (Option Value)} {x : Int} (X : mo_Cx κ lf ρf cc nL own ret d) (hd : decode cc pc = .ok (.lstore_n 2, 1)) (hc : mo_c1 a1 = true) (hi : 2 + 1 < nL) (kk : mo_V κ k n (pc + 1) (a0 :: a1 :: some (mo_jv x) :: none :: r) st G M t) : mo_V κ k n pc (a0 :: a1 :: o :: o1 :: r) (mo_jv x :: st) G M t := mo_lstore_n X hd rfl (Or.inr ⟨_, rfl, hc⟩) hi kk
theorem mo_ii2 {a0 a1 : Option Value} {r : List (Option Value)} {v x : Int} (X : mo_Cx κ lf ρf cc nL own ret d) (hd : decode cc pc = .ok (.iinc 2 v, 3)) (hc : mo_c1 a1 = true) (hi : 2 < nL) (kk : mo_V κ k n (pc + 3) (a0 :: a1 :: some (mo_iv (x + v)) :: r) st G M t) : mo_V κ k n pc (a0 :: a1 :: some (mo_iv x) :: r) st G M t := mo_iinc X hd rfl (Or.inr ⟨_, rfl, hc⟩) hi kk
theorem mo_il3 {a0 a1 a2 : Option Value} {r : List (Option Value)} {x : Int} (X : mo_Cx κ lf ρf cc nL own ret d) (hd : decode cc pc = .ok (.iload_n 3, 1)) (kk : mo_V κ k n (pc + 1) (a0 :: a1 :: a2 :: some (mo_iv x) :: r) (mo_iv x :: st) G M t) : mo_V κ k n pc (a0 :: a1 :: a2 :: some (mo_iv x) :: r) st G M t := mo_iload_n X hd rfl kk
theorem mo_al3 {a0 a1 a2 : Option Value} {r : List (Option Value)} {x : Nat} (X : mo_Cx κ lf ρf cc nL own ret d) (hd : decode cc pc = .ok (.aload_n 3, 1)) (kk : mo_V κ k n (pc + 1) (a0 :: a1 :: a2 :: some (.ref x) :: r) (.ref x :: st) G M t) : mo_V κ k n pc (a0 :: a1 :: a2 :: some (.ref x) :: r) st G M t := mo_aload_n X hd rfl kk
theorem mo_ll3 {a0 a1 a2 : Option Value} {r : List (Option Value)} {x : Int} (X : mo_Cx κ lf ρf cc nL own ret d) (hd : decode cc pc = .ok (.lload_n 3, 1)) (kk : mo_V κ k n (pc + 1) (a0 :: a1 :: a2 :: some (mo_jv x) :: r) (mo_jv x :: st) G M t) : mo_V κ k n pc (a0 :: a1 :: a2 :: some (mo_jv x) :: r) st G M t := mo_lload_n X hd rfl kk
theorem mo_is3 {a0 a1 a2 : Option Value} {o : Option Value} {r : List (Option Value)} {x : Int} (X : mo_Cx κ lf ρf cc nL own ret d) (hd : decode cc pc = .ok (.istore_n 3, 1)) (hc : mo_c1 a2 = true) (hi : 3 < nL) (kk : mo_V κ k n (pc + 1) (a0 :: a1 :: a2 :: some (mo_iv x) :: r) st G M t) : mo_V κ k n pc (a0 :: a1 :: a2 :: o :: r) (mo_iv x :: st) G M t := mo_istore_n X hd rfl (Or.inr ⟨_, rfl, hc⟩) hi kk
theorem mo_as3 {a0 a1 a2 : Option Value} {o : Option Value} {r : List (Option Value)} {x : Nat} (X : mo_Cx κ lf ρf cc nL own ret d) (hd : decode cc pc = .ok (.astore_n 3, 1)) (hc : mo_c1 a2 = true) (hi : 3 < nL) (kk : mo_V κ k n (pc + 1) (a0 :: a1 :: a2 :: some (.ref x) :: r) st G M t) : mo_V κ k n pc (a0 :: a1 :: a2 :: o :: r) (.ref x :: st) G M t := mo_astore_n X hd rfl (Or.inr ⟨_, rfl, hc⟩) hi kk
theorem mo_ls3 {a0 a1 a2 : Option Value} {o o1 : Option Value} {r : List (Option Value)} {x : Int} (X : mo_Cx κ lf ρf cc nL own ret d) (hd : decode cc pc = .ok (.lstore_n 3, 1)) (hc : mo_c1 a2 = true) (hi : 3 + 1 < nL) (kk : mo_V κ k n (pc + 1) (a0 :: a1 :: a2 :: some (mo_jv x) :: none :: r) st G M t) : mo_V κ k n pc (a0 :: a1 :: a2 :: o :: o1 :: r) (mo_jv x :: st) G M t := mo_lstore_n X hd rfl (Or.inr ⟨_, rfl, hc⟩) hi kk
theorem mo_ii3 {a0 a1 a2 : Option Value} {r : List (Option Value)} {v x : Int} (X : mo_Cx κ lf ρf cc nL own ret d) (hd : decode cc pc = .ok (.iinc 3 v, 3)) (hc : mo_c1 a2 = true) (hi : 3 < nL) (kk : mo_V κ k n (pc + 3) (a0 :: a1 :: a2 :: some (mo_iv (x + v)) :: r) st G M t) : mo_V κ k n pc (a0 :: a1 :: a2 :: some (mo_iv x) :: r) st G M t := mo_iinc X hd rfl (Or.inr ⟨_, rfl, hc⟩) hi kk
theorem mo_il4 {a0 a1 a2 a3 : Option Value} {r : List (Option Value)} {x : Int} (X : mo_Cx κ lf ρf cc nL own ret d) (hd : decode cc pc = .ok (.iload 4, 2)) (kk : mo_V κ k n (pc + 2) (a0 :: a1 :: a2 :: a3 :: some (mo_iv x) :: r) (mo_iv x :: st) G M t) : mo_V κ k n pc (a0 :: a1 :: a2 :: a3 :: some (mo_iv x) :: r) st G M t := mo_iload X hd rfl kk
theorem mo_al4 {a0 a1 a2 a3 : Option Value} {r : List (Option Value)} {x : Nat} (X : mo_Cx κ lf ρf cc nL own ret d) (hd : decode cc pc = .ok (.aload 4, 2)) (kk : mo_V κ k n (pc + 2) (a0 :: a1 :: a2 :: a3 :: some (.ref x) :: r) (.ref x :: st) G M t) : mo_V κ k n pc (a0 :: a1 :: a2 :: a3 :: some (.ref x) :: r) st G M t := mo_aload X hd rfl kk
theorem mo_ll4 {a0 a1 a2 a3 : Option Value} {r : List (Option Value)} {x : Int} (X : mo_Cx κ lf ρf cc nL own ret d) (hd : decode cc pc = .ok (.lload 4, 2)) (kk : mo_V κ k n (pc + 2) (a0 :: a1 :: a2 :: a3 :: some (mo_jv x) :: r) (mo_jv x :: st) G M t) : mo_V κ k n pc (a0 :: a1 :: a2 :: a3 :: some (mo_jv x) :: r) st G M t := mo_lload X hd rfl kk
theorem mo_is4 {a0 a1 a2 a3 : Option Value} {o : Option Value} {r : List (Option Value)} {x : Int} (X : mo_Cx κ lf ρf cc nL own ret d) (hd : decode cc pc = .ok (.istore 4, 2)) (hc : mo_c1 a3 = true) (hi : 4 < nL) (kk : mo_V κ k n (pc + 2) (a0 :: a1 :: a2 :: a3 :: some (mo_iv x) :: r) st G M t) : mo_V κ k n pc (a0 :: a1 :: a2 :: a3 :: o :: r) (mo_iv x :: st) G M t := mo_istore X hd (Or.inr ⟨_, rfl, hc⟩) hi kk
theorem mo_as4 {a0 a1 a2 a3 : Option Value} {o : Option Value} {r : List (Option Value)} {x : Nat} (X : mo_Cx κ lf ρf cc nL own ret d) (hd : decode cc pc = .ok (.astore 4, 2)) (hc : mo_c1 a3 = true) (hi : 4 < nL) (kk : mo_V κ k n (pc + 2) (a0 :: a1 :: a2 :: a3 :: some (.ref x) :: r) st G M t) : mo_V κ k n pc (a0 :: a1 :: a2 :: a3 :: o :: r) (.ref x :: st) G M t := mo_astore X hd (Or.inr ⟨_, rfl, hc⟩) hi kk
theorem mo_ls4 {a0 a1 a2 a3 : Option Value} {o o1 : Option Value} {r : List (Option Value)} {x : Int} (X : mo_Cx κ lf ρf cc nL own ret d) (hd : decode cc pc = .ok (.lstore 4, 2)) (hc : mo_c1 a3 = true) (hi : 4 + 1 < nL) (kk : mo_V κ k n (pc + 2) (a0 :: a1 :: a2 :: a3 :: some (mo_jv x) :: none :: r) st G M t) : mo_V κ k n pc (a0 :: a1 :: a2 :: a3 :: o :: o1 :: r) (mo_jv x :: st) G M t := mo_lstore X hd (Or.inr ⟨_, rfl, hc⟩) hi kk
theorem mo_ii4 {a0 a1 a2 a3 : Option Value} {r : List (Option Value)} {v x : Int} (X : mo_Cx κ lf ρf cc nL own ret d) (hd : decode cc pc = .ok (.iinc 4 v, 3)) (hc : mo_c1 a3 = true) (hi : 4 < nL) (kk : mo_V κ k n (pc + 3) (a0 :: a1 :: a2 :: a3 :: some (mo_iv (x + v)) :: r) st G M t) : mo_V κ k n pc (a0 :: a1 :: a2 :: a3 :: some (mo_iv x) :: r) st G M t := mo_iinc X hd rfl (Or.inr ⟨_, rfl, hc⟩) hi kk
theorem mo_il5 {a0 a1 a2 a3 a4 : Option Value} {r : List (Option Value)} {x : Int} (X : mo_Cx κ lf ρf cc nL own ret d) (hd : decode cc pc = .ok (.iload 5, 2)) (kk : mo_V κ k n (pc + 2) (a0 :: a1 :: a2 :: a3 :: a4 :: some (mo_iv x) :: r) (mo_iv x :: st) G M t) : mo_V κ k n pc (a0 :: a1 :: a2 :: a3 :: a4 :: some (mo_iv x) :: r) st G M t := mo_iload X hd rfl kk
theorem mo_al5 {a0 a1 a2 a3 a4 : Option Value} {r : List (Option Value)} {x : Nat} (X : mo_Cx κ lf ρf cc nL own ret d) (hd : decode cc pc = .ok (.aload 5, 2)) (kk : mo_V κ k n (pc + 2) (a0 :: a1 :: a2 :: a3 :: a4 :: some (.ref x) :: r) (.ref x :: st) G M t) : mo_V κ k n pc (a0 :: a1 :: a2 :: a3 :: a4 :: some (.ref x) :: r) st G M t := mo_aload X hd rfl kk
theorem mo_ll5 {a0 a1 a2 a3 a4 : Option Value} {r : List (Option Value)} {x : Int} (X : mo_Cx κ lf ρf cc nL own ret d) (hd : decode cc pc = .ok (.lload 5, 2)) (kk : mo_V κ k n (pc + 2) (a0 :: a1 :: a2 :: a3 :: a4 :: some (mo_jv x) :: r) (mo_jv x :: st) G M t) : mo_V κ k n pc (a0 :: a1 :: a2 :: a3 :: a4 :: some (mo_jv x) :: r) st G M t := mo_lload X hd rfl kk
theorem mo_is5 {a0 a1 a2 a3 a4 : Option Value} {o : Option Value} {r : List (Option Value)} {x : Int} (X : mo_Cx κ lf ρf cc nL own ret d) (hd : decode cc pc = .ok (.istore 5, 2)) (hc : mo_c1 a4 = true) (hi : 5 < nL) (kk : mo_V κ k n (pc + 2) (a0 :: a1 :: a2 :: a3 :: a4 :: some (mo_iv x) :: r) st G M t) : mo_V κ k n pc (a0 :: a1 :: a2 :: a3 :: a4 :: o :: r) (mo_iv x :: st) G M t := mo_istore X hd (Or.inr ⟨_, rfl, hc⟩) hi kk
theorem mo_as5 {a0 a1 a2 a3 a4 : Option Value} {o : Option Value} {r : List (Option Value)} {x : Nat} (X : mo_Cx κ lf ρf cc nL own ret d) (hd : decode cc pc = .ok (.astore 5, 2)) (hc : mo_c1 a4 = true) (hi : 5 < nL) (kk : mo_V κ k n (pc + 2) (a0 :: a1 :: a2 :: a3 :: a4 :: some (.ref x) :: r) st G M t) : mo_V κ k n pc (a0 :: a1 :: a2 :: a3 :: a4 :: o :: r) (.ref x :: st) G M t := mo_astore X hd (Or.inr ⟨_, rfl, hc⟩) hi kk
theorem mo_ls5 {a0 a1 a2 a3 a4 : Option Value} {o o1 : Option Value} {r : List (Option Value)} {x : Int} (X : mo_Cx κ lf ρf cc nL own ret d) (hd : decode cc pc = .ok (.lstore 5, 2)) (hc : mo_c1 a4 = true) (hi : 5 + 1 < nL) (kk : mo_V κ k n (pc + 2) (a0 :: a1 :: a2 :: a3 :: a4 :: some (mo_jv x) :: none :: r) st G M t) : mo_V κ k n pc (a0 :: a1 :: a2 :: a3 :: a4 :: o :: o1 :: r) (mo_jv x :: st) G M t := mo_lstore X hd (Or.inr ⟨_, rfl, hc⟩) hi kk
theorem mo_ii5 {a0 a1 a2 a3 a4 : Option Value} {r : List (Option Value)} {v x : Int} (X : mo_Cx κ lf ρf cc nL own ret d) (hd : decode cc pc = .ok (.iinc 5 v, 3)) (hc : mo_c1 a4 = true) (hi : 5 < nL) (kk : mo_V κ k n (pc + 3) (a0 :: a1 :: a2 :: a3 :: a4 :: some (mo_iv (x + v)) :: r) st G M t) : mo_V κ k n pc (a0 :: a1 :: a2 :: a3 :: a4 :: some (mo_iv x) :: r) st G M t := mo_iinc X hd rfl (Or.inr ⟨_, rfl, hc⟩) hi kk
theorem mo_il6 {a0 a1 a2 a3 a4 a5 : Option Value} {r : List (Option Value)} {x : Int} (X : mo_Cx κ lf ρf cc nL own ret d) (hd : decode cc pc = .ok (.iload 6, 2)) (kk : mo_V κ k n (pc + 2) (a0 :: a1 :: a2 :: a3 :: a4 :: a5 :: some (mo_iv x) :: r) (mo_iv x :: st) G M t) : mo_V κ k n pc (a0 :: a1 :: a2 :: a3 :: a4 :: a5 :: some (mo_iv x) :: r) st G M t := mo_iload X hd rfl kk
theorem mo_al6 {a0 a1 a2 a3 a4 a5 : Option Value} {r : List (Option Value)} {x : Nat} (X : mo_Cx κ lf ρf cc nL own ret d) (hd : decode cc pc = .ok (.aload 6, 2)) (kk : mo_V κ k n (pc + 2) (a0 :: a1 :: a2 :: a3 :: a4 :: a5 :: some (.ref x) :: r) (.ref x :: st) G M t) : mo_V κ k n pc (a0 :: a1 :: a2 :: a3 :: a4 :: a5 :: some (.ref x) :: r) st G M t := mo_aload X hd rfl kk
theorem mo_ll6 {a0 a1 a2 a3 a4 a5 : Option Value} {r : List (Option Value)} {x : Int} (X : mo_Cx κ lf ρf cc nL own ret d) (hd : decode cc pc = .ok (.lload 6, 2)) (kk : mo_V κ k n (pc + 2) (a0 :: a1 :: a2 :: a3 :: a4 :: a5 :: some (mo_jv x) :: r) (mo_jv x :: st) G M t) : mo_V κ k n pc (a0 :: a1 :: a2 :: a3 :: a4 :: a5 :: some (mo_jv x) :: r) st G M t := mo_lload X hd rfl kk
theorem mo_is6 {a0 a1 a2 a3 a4 a5 : Option Value} {o : Option Value} {r : List (Option Value)} {x : Int} (X : mo_Cx κ lf ρf cc nL own ret d) (hd : decode cc pc = .ok (.istore 6, 2)) (hc : mo_c1 a5 = true) (hi : 6 < nL) (kk : mo_V κ k n (pc + 2) (a0 :: a1 :: a2 :: a3 :: a4 :: a5 :: some (mo_iv x) :: r) st G M t) : mo_V κ k n pc (a0 :: a1 :: a2 :: a3 :: a4 :: a5 :: o :: r) (mo_iv x :: st) G M t := mo_istore X hd (Or.inr ⟨_, rfl, hc⟩) hi kk
theorem mo_as6 {a0 a1 a2 a3 a4 a5 : Option Value} {o : Option Value} {r : List (Option Value)} {x : Nat} (X : mo_Cx κ lf ρf cc nL own ret d) (hd : decode cc pc = .ok (.astore 6, 2)) (hc : mo_c1 a5 = true) (hi : 6 < nL) (kk : mo_V κ k n (pc + 2) (a0 :: a1 :: a2 :: a3 :: a4 :: a5 :: some (.ref x) :: r) st G M t) : mo_V κ k n pc (a0 :: a1 :: a2 :: a3 :: a4 :: a5 :: o :: r) (.ref x :: st) G M t := mo_astore X hd (Or.inr ⟨_, rfl, hc⟩) hi kk
theorem mo_ls6 {a0 a1 a2 a3 a4 a5 : Option Value} {o o1 : Option Value} {r : List (Option Value)} {x : Int} (X : mo_Cx κ lf ρf cc nL own ret d) (hd : decode cc pc = .ok (.lstore 6, 2)) (hc : mo_c1 a5 = true) (hi : 6 + 1 < nL) (kk : mo_V κ k n (pc + 2) (a0 :: a1 :: a2 :: a3 :: a4 :: a5 :: some (mo_jv x) :: none :: r) st G M t) : mo_V κ k n pc (a0 :: a1 :: a2 :: a3 :: a4 :: a5 :: o :: o1 :: r) (mo_jv x :: st) G M t := mo_lstore X hd (Or.inr ⟨_, rfl, hc⟩) hi kk
theorem mo_ii6 {a0 a1 a2 a3 a4 a5 : Option Value} {r : List (Option Value)} {v x : Int} (X : mo_Cx κ lf ρf cc nL own ret d) (hd : decode cc pc = .ok (.iinc 6 v, 3)) (hc : mo_c1 a5 = true) (hi : 6 < nL) (kk : mo_V κ k n (pc + 3) (a0 :: a1 :: a2 :: a3 :: a4 :: a5 :: some (mo_iv (x + v)) :: r) st G M t) : mo_V κ k n pc (a0 :: a1 :: a2 :: a3 :: a4 :: a5 :: some (mo_iv x) :: r) st G M t := mo_iinc X hd rfl (Or.inr ⟨_, rfl, hc⟩) hi kk
theorem mo_il7 {a0 a1 a2 a3 a4 a5 a6 : Option Value} {r : List (Option Value)} {x : Int} (X : mo_Cx κ lf ρf cc nL own ret d) (hd : decode cc pc = .ok (.iload 7, 2)) (kk : mo_V κ k n (pc + 2) (a0 :: a1 :: a2 :: a3 :: a4 :: a5 :: a6 :: some (mo_iv x) :: r) (mo_iv x :: st) G M t) : mo_V κ k n pc (a0 :: a1 :: a2 :: a3 :: a4 :: a5 :: a6 :: some (mo_iv x) :: r) st G M t := mo_iload X hd rfl kk
theorem mo_al7 {a0 a1 a2 a3 a4 a5 a6 : Option Value} {r : List (Option Value)} {x : Nat} (X : mo_Cx κ lf ρf cc nL own ret d) (hd : decode cc pc = .ok (.aload 7, 2)) (kk : mo_V κ k n (pc + 2) (a0 :: a1 :: a2 :: a3 :: a4 :: a5 :: a6 :: some (.ref x) :: r) (.ref x :: st) G M t) : mo_V κ k n pc (a0 :: a1 :: a2 :: a3 :: a4 :: a5 :: a6 :: some (.ref x) :: r) st G M t := mo_aload X hd rfl kk
theorem mo_ll7 {a0 a1 a2 a3 a4 a5 a6 : Option Value} {r : List (Option Value)} {x : Int} (X : mo_Cx κ lf ρf cc nL own ret d) (hd : decode cc pc = .ok (.lload 7, 2)) (kk : mo_V κ k n (pc + 2) (a0 :: a1 :: a2 :: a3 :: a4 :: a5 :: a6 :: some (mo_jv x) :: r) (mo_jv x :: st) G M t) : mo_V κ k n pc (a0 :: a1 :: a2 :: a3 :: a4 :: a5 :: a6 :: some (mo_jv x) :: r) st G M t := mo_lload X hd rfl kk
theorem mo_is7 {a0 a1 a2 a3 a4 a5 a6 : Option Value} {o : Option Value} {r : List (Option Value)} {x : Int} (X : mo_Cx κ lf ρf cc nL own ret d) (hd : decode cc pc = .ok (.istore 7, 2)) (hc : mo_c1 a6 = true) (hi : 7 < nL) (kk : mo_V κ k n (pc + 2) (a0 :: a1 :: a2 :: a3 :: a4 :: a5 :: a6 :: some (mo_iv x) :: r) st G M t) : mo_V κ k n pc (a0 :: a1 :: a2 :: a3 :: a4 :: a5 :: a6 :: o :: r) (mo_iv x :: st) G M t := mo_istore X hd (Or.inr ⟨_, rfl, hc⟩) hi kk
theorem mo_as7 {a0 a1 a2 a3 a4 a5 a6 : Option Value} {o : Option Value} {r : List (Option Value)} {x : Nat} (X : mo_Cx κ lf ρf cc nL own ret d) (hd : decode cc pc = .ok (.astore 7, 2)) (hc : mo_c1 a6 = true) (hi : 7 < nL) (kk : mo_V κ k n (pc + 2) (a0 :: a1 :: a2 :: a3 :: a4 :: a5 :: a6 :: some (.ref x) :: r) st G M t) : mo_V κ k n pc (a0 :: a1 :: a2 :: a3 :: a4 :: a5 :: a6 :: o :: r) (.ref x :: st) G M t := mo_astore X hd (Or.inr ⟨_, rfl, hc⟩) hi kk
theorem mo_ls7 {a0 a1 a2 a3 a4 a5 a6 : Option Value} {o o1 : Option Value} {r : List (Option Value)} {x : Int} (X : mo_Cx κ lf ρf cc nL own ret d) (hd : decode cc pc = .ok (.lstore 7, 2)) (hc : mo_c1 a6 = true) (hi : 7 + 1 < nL) (kk : mo_V κ k n (pc + 2) (a0 :: a1 :: a2 :: a3 :: a4 :: a5 :: a6 :: some (mo_jv x) :: none :: r) st G M t) : mo_V κ k n pc (a0 :: a1 :: a2 :: a3 :: a4 :: a5 :: a6 :: o :: o1 :: r) (mo_jv x :: st) G M t := mo_lstore X hd (Or.inr ⟨_, rfl, hc⟩) hi kk
theorem mo_ii7 {a0 a1 a2 a3 a4 a5 a6 : Option Value} {r : List (Option Value)} {v x : Int} (X : mo_Cx κ lf ρf cc nL own ret d) (hd : decode cc pc = .ok (.iinc 7 v, 3)) (hc : mo_c1 a6 = true) (hi : 7 < nL) (kk : mo_V κ k n (pc + 3) (a0 :: a1 :: a2 :: a3 :: a4 :: a5 :: a6 :: some (mo_iv (x + v)) :: r) st G M t) : mo_V κ k n pc (a0 :: a1 :: a2 :: a3 :: a4 :: a5 :: a6 :: some (mo_iv x) :: r) st G M t := mo_iinc X hd rfl (Or.inr ⟨_, rfl, hc⟩) hi kk
theorem mo_il8 {a0 a1 a2 a3 a4 a5 a6 a7 : Option Value} {r : List (Option Value)} {x : Int} (X : mo_Cx κ lf ρf cc nL own ret d) (hd : decode cc pc = .ok (.iload 8, 2)) (kk : mo_V κ k n (pc + 2) (a0 :: a1 :: a2 :: a3 :: a4 :: a5 :: a6 :: a7 :: some (mo_iv x) :: r) (mo_iv x :: st) G M t) : mo_V κ k n pc (a0 :: a1 :: a2 :: a3 :: a4 :: a5 :: a6 :: a7 :: some (mo_iv x) :: r) st G M t := mo_iload X hd rfl kk
theorem mo_al8 {a0 a1 a2 a3 a4 a5 a6 a7 : Option Value} {r : List (Option Value)} {x : Nat} (X : mo_Cx κ lf ρf cc nL own ret d) (hd : decode cc pc = .ok (.aload 8, 2)) (kk : mo_V κ k n (pc + 2) (a0 :: a1 :: a2 :: a3 :: a4 :: a5 :: a6 :: a7 :: some (.ref x) :: r) (.ref x :: st) G M t) : mo_V κ k n pc (a0 :: a1 :: a2 :: a3 :: a4 :: a5 :: a6 :: a7 :: some (.ref x) :: r) st G M t := mo_aload X hd rfl kk
theorem mo_ll8 {a0 a1 a2 a3 a4 a5 a6 a7 : Option Value} {r : List (Option Value)} {x : Int} (X : mo_Cx κ lf ρf cc nL own ret d) (hd : decode cc pc = .ok (.lload 8, 2)) (kk : mo_V κ k n (pc + 2) (a0 :: a1 :: a2 :: a3 :: a4 :: a5 :: a6 :: a7 :: some (mo_jv x) :: r) (mo_jv x :: st) G M t) : mo_V κ k n pc (a0 :: a1 :: a2 :: a3 :: a4 :: a5 :: a6 :: a7 :: some (mo_jv x) :: r) st G M t := mo_lload X hd rfl kk
theorem mo_is8 {a0 a1 a2 a3 a4 a5 a6 a7 : Option Value} {o : Option Value} {r : List (Option Value)} {x : Int} (X : mo_Cx κ lf ρf cc nL own ret d) (hd : decode cc pc = .ok (.istore 8, 2)) (hc : mo_c1 a7 = true) (hi : 8 < nL) (kk : mo_V κ k n (pc + 2) (a0 :: a1 :: a2 :: a3 :: a4 :: a5 :: a6 :: a7 :: some (mo_iv x) :: r) st G M t) : mo_V κ k n pc (a0 :: a1 :: a2 :: a3 :: a4 :: a5 :: a6 :: a7 :: o :: r) (mo_iv x :: st) G M t := mo_istore X hd (Or.inr ⟨_, rfl, hc⟩) hi kk
theorem mo_as8 {a0 a1 a2 a3 a4 a5 a6 a7 : Option Value} {o : Option Value} {r : List (Option Value)} {x : Nat} (X : mo_Cx κ lf ρf cc nL own ret d) (hd : decode cc pc = .ok (.astore 8, 2)) (hc : mo_c1 a7 = true) (hi : 8 < nL) (kk : mo_V κ k n (pc + 2) (a0 :: a1 :: a2 :: a3 :: a4 :: a5 :: a6 :: a7 :: some (.ref x) :: r) st G M t) : mo_V κ k n pc (a0 :: a1 :: a2 :: a3 :: a4 :: a5 :: a6 :: a7 :: o :: r) (.ref x :: st) G M t := mo_astore X hd (Or.inr ⟨_, rfl, hc⟩) hi kk
theorem mo_ls8 {a0 a1 a2 a3 a4 a5 a6 a7 : Option Value} {o o1 : Option Value} {r : List (Option Value)} {x : Int} (X : mo_Cx κ lf ρf cc nL own ret d) (hd : decode cc pc = .ok (.lstore 8, 2)) (hc : mo_c1 a7 = true) (hi : 8 + 1 < nL) (kk : mo_V κ k n (pc + 2) (a0 :: a1 :: a2 :: a3 :: a4 :: a5 :: a6 :: a7 :: some (mo_jv x) :: none :: r) st G M t) : mo_V κ k n pc (a0 :: a1 :: a2 :: a3 :: a4 :: a5 :: a6 :: a7 :: o :: o1 :: r) (mo_jv x :: st) G M t := mo_lstore X hd (Or.inr ⟨_, rfl, hc⟩) hi kk
theorem mo_ii8 {a0 a1 a2 a3 a4 a5 a6 a7 : Option Value} {r : List (Option Value)} {v x : Int} (X : mo_Cx κ lf ρf cc nL own ret d) (hd : decode cc pc = .ok (.iinc 8 v, 3)) (hc : mo_c1 a7 = true) (hi : 8 < nL) (kk : mo_V κ k n (pc + 3) (a0 :: a1 :: a2 :: a3 :: a4 :: a5 :: a6 :: a7 :: some (mo_iv (x + v)) :: r) st G M t) : mo_V κ k n pc (a0 :: a1 :: a2 :: a3 :: a4 :: a5 :: a6 :: a7 :: some (mo_iv x) :: r) st G M t := mo_iinc X hd rfl (Or.inr ⟨_, rfl, hc⟩) hi kk
theorem mo_iadd (X : mo_Cx κ lf ρf cc nL own ret d) {x y : Int} (hd : decode cc pc = .ok (.iadd, 1)) (kk : mo_V κ k n (pc + 1) ls (mo_iv (x + y) :: st) G M t) : mo_V κ k n pc ls (mo_iv y :: mo_iv x :: st) G M t := by
  obtain ⟨⟨p, l, e, R, s⟩, ⟨m, args, below, meth, c⟩, Q, ρ⟩ := κ
  obtain ⟨hx, hb, hml, hown, hts, hK, hlk, hrt, hb0, hRf, hRl, hlf, hρ⟩ := X
  intro H locs lr ht hR hS hl
  exact lv_iadd hx hb hd (by rw [← Int32.ofInt_add]; exact kk H locs lr ht hR hS hl)
theorem mo_isub (X : mo_Cx κ lf ρf cc nL own ret d) {x y : Int} (hd : decode cc pc = .ok (.isub, 1)) (kk : mo_V κ k n (pc + 1) ls (mo_iv (x - y) :: st) G M t) : mo_V κ k n pc ls (mo_iv y :: mo_iv x :: st) G M t := by
  obtain ⟨⟨p, l, e, R, s⟩, ⟨m, args, below, meth, c⟩, Q, ρ⟩ := κ
  obtain ⟨hx, hb, hml, hown, hts, hK, hlk, hrt, hb0, hRf, hRl, hlf, hρ⟩ := X
  intro H locs lr ht hR hS hl
  exact lv_isub hx hb hd (by rw [← Int32.ofInt_sub]; exact kk H locs lr ht hR hS hl)
theorem mo_imul (X : mo_Cx κ lf ρf cc nL own ret d) {x y : Int} (hd : decode cc pc = .ok (.imul, 1)) (kk : mo_V κ k n (pc + 1) ls (mo_iv (x * y) :: st) G M t) : mo_V κ k n pc ls (mo_iv y :: mo_iv x :: st) G M t := by
  obtain ⟨⟨p, l, e, R, s⟩, ⟨m, args, below, meth, c⟩, Q, ρ⟩ := κ
  obtain ⟨hx, hb, hml, hown, hts, hK, hlk, hrt, hb0, hRf, hRl, hlf, hρ⟩ := X
  intro H locs lr ht hR hS hl
  exact lv_imul hx hb hd (by rw [← Int32.ofInt_mul]; exact kk H locs lr ht hR hS hl)
theorem mo_ineg (X : mo_Cx κ lf ρf cc nL own ret d) {x : Int} (hd : decode cc pc = .ok (.ineg, 1)) (kk : mo_V κ k n (pc + 1) ls (mo_iv (-x) :: st) G M t) : mo_V κ k n pc ls (mo_iv x :: st) G M t := by
  obtain ⟨⟨p, l, e, R, s⟩, ⟨m, args, below, meth, c⟩, Q, ρ⟩ := κ
  obtain ⟨hx, hb, hml, hown, hts, hK, hlk, hrt, hb0, hRf, hRl, hlf, hρ⟩ := X
  intro H locs lr ht hR hS hl
  exact lv_ineg hx hb hd (by rw [← Int32.ofInt_neg]; exact kk H locs lr ht hR hS hl)
theorem mo_divI {x y : Int} (hx : 0 ≤ x ∧ x < 2147483648) (hy : 0 < y ∧ y < 2147483648) : Int32.ofInt x / Int32.ofInt y = Int32.ofInt (x / y) := by
  obtain ⟨a, rfl⟩ := Int.eq_ofNat_of_zero_le hx.1
  obtain ⟨b, rfl⟩ := Int.eq_ofNat_of_zero_le (Int.le_of_lt hy.1)
  exact pk_div (a := a) (d := b) (by omega) (by omega) (by omega)
theorem mo_remI {x y : Int} (hx : 0 ≤ x ∧ x < 2147483648) (hy : 0 < y ∧ y < 2147483648) : Int32.ofInt x - Int32.ofInt x / Int32.ofInt y * Int32.ofInt y = Int32.ofInt (x % y) := by
  obtain ⟨a, rfl⟩ := Int.eq_ofNat_of_zero_le hx.1
  obtain ⟨b, rfl⟩ := Int.eq_ofNat_of_zero_le (Int.le_of_lt hy.1)
  exact pk_rem (a := a) (d := b) (by omega) (by omega) (by omega)
theorem mo_nz {y : Int} (hy : 0 < y ∧ y < 2147483648) : ¬ Int32.ofInt y = 0 := by
  rw [mo_0, mo_eq (by omega) (by omega)]
  omega
theorem mo_idiv (X : mo_Cx κ lf ρf cc nL own ret d) {x y : Int} (hd : decode cc pc = .ok (.idiv, 1)) (h1 : 0 ≤ x ∧ x < 2147483648) (h2 : 0 < y ∧ y < 2147483648) (kk : mo_V κ k n (pc + 1) ls (mo_iv (x / y) :: st) G M t) : mo_V κ k n pc ls (mo_iv y :: mo_iv x :: st) G M t := by
  obtain ⟨⟨p, l, e, R, s⟩, ⟨m, args, below, meth, c⟩, Q, ρ⟩ := κ
  obtain ⟨hx, hb, hml, hown, hts, hK, hlk, hrt, hb0, hRf, hRl, hlf, hρ⟩ := X
  intro H locs lr ht hR hS hl
  exact lv_idiv hx hb hd (mo_nz h2) (by rw [mo_divI h1 h2]; exact kk H locs lr ht hR hS hl)
theorem mo_irem (X : mo_Cx κ lf ρf cc nL own ret d) {x y : Int} (hd : decode cc pc = .ok (.irem, 1)) (h1 : 0 ≤ x ∧ x < 2147483648) (h2 : 0 < y ∧ y < 2147483648) (kk : mo_V κ k n (pc + 1) ls (mo_iv (x % y) :: st) G M t) : mo_V κ k n pc ls (mo_iv y :: mo_iv x :: st) G M t := by
  obtain ⟨⟨p, l, e, R, s⟩, ⟨m, args, below, meth, c⟩, Q, ρ⟩ := κ
  obtain ⟨hx, hb, hml, hown, hts, hK, hlk, hrt, hb0, hRf, hRl, hlf, hρ⟩ := X
  intro H locs lr ht hR hS hl
  exact lv_irem hx hb hd (mo_nz h2) (by rw [mo_remI h1 h2]; exact kk H locs lr ht hR hS hl)
def mo_and (x y : Int) : Int := (Int32.ofInt x &&& Int32.ofInt y).toInt
def mo_or (x y : Int) : Int := (Int32.ofInt x ||| Int32.ofInt y).toInt
def mo_xor (x y : Int) : Int := (Int32.ofInt x ^^^ Int32.ofInt y).toInt
def mo_shl (x y : Int) : Int := (Int32.ofInt x <<< (Int32.ofInt y &&& 31)).toInt
def mo_shr (x y : Int) : Int := (Int32.ofInt x >>> (Int32.ofInt y &&& 31)).toInt
def mo_lshl (x y : Int) : Int := (Int64.ofInt x <<< ((Int32.ofInt y).toInt64 &&& 63)).toInt
theorem mo_iand (X : mo_Cx κ lf ρf cc nL own ret d) {x y : Int} (hd : decode cc pc = .ok (.iand, 1)) (kk : mo_V κ k n (pc + 1) ls (mo_iv (mo_and x y) :: st) G M t) : mo_V κ k n pc ls (mo_iv y :: mo_iv x :: st) G M t := by
  obtain ⟨⟨p, l, e, R, s⟩, ⟨m, args, below, meth, c⟩, Q, ρ⟩ := κ
  obtain ⟨hx, hb, hml, hown, hts, hK, hlk, hrt, hb0, hRf, hRl, hlf, hρ⟩ := X
  intro H locs lr ht hR hS hl
  exact lv_iand hx hb hd (by have h := kk H locs lr ht hR hS hl; rw [mo_iv, mo_and, Int32.ofInt_toInt] at h; exact h)
theorem mo_ior (X : mo_Cx κ lf ρf cc nL own ret d) {x y : Int} (hd : decode cc pc = .ok (.ior, 1)) (kk : mo_V κ k n (pc + 1) ls (mo_iv (mo_or x y) :: st) G M t) : mo_V κ k n pc ls (mo_iv y :: mo_iv x :: st) G M t := by
  obtain ⟨⟨p, l, e, R, s⟩, ⟨m, args, below, meth, c⟩, Q, ρ⟩ := κ
  obtain ⟨hx, hb, hml, hown, hts, hK, hlk, hrt, hb0, hRf, hRl, hlf, hρ⟩ := X
  intro H locs lr ht hR hS hl
  exact lv_ior hx hb hd (by have h := kk H locs lr ht hR hS hl; rw [mo_iv, mo_or, Int32.ofInt_toInt] at h; exact h)
theorem mo_ixor (X : mo_Cx κ lf ρf cc nL own ret d) {x y : Int} (hd : decode cc pc = .ok (.ixor, 1)) (kk : mo_V κ k n (pc + 1) ls (mo_iv (mo_xor x y) :: st) G M t) : mo_V κ k n pc ls (mo_iv y :: mo_iv x :: st) G M t := by
  obtain ⟨⟨p, l, e, R, s⟩, ⟨m, args, below, meth, c⟩, Q, ρ⟩ := κ
  obtain ⟨hx, hb, hml, hown, hts, hK, hlk, hrt, hb0, hRf, hRl, hlf, hρ⟩ := X
  intro H locs lr ht hR hS hl
  exact lv_ixor hx hb hd (by have h := kk H locs lr ht hR hS hl; rw [mo_iv, mo_xor, Int32.ofInt_toInt] at h; exact h)
theorem mo_ishl (X : mo_Cx κ lf ρf cc nL own ret d) {x y : Int} (hd : decode cc pc = .ok (.ishl, 1)) (kk : mo_V κ k n (pc + 1) ls (mo_iv (mo_shl x y) :: st) G M t) : mo_V κ k n pc ls (mo_iv y :: mo_iv x :: st) G M t := by
  obtain ⟨⟨p, l, e, R, s⟩, ⟨m, args, below, meth, c⟩, Q, ρ⟩ := κ
  obtain ⟨hx, hb, hml, hown, hts, hK, hlk, hrt, hb0, hRf, hRl, hlf, hρ⟩ := X
  intro H locs lr ht hR hS hl
  exact lv_ishl hx hb hd (by have h := kk H locs lr ht hR hS hl; rw [mo_iv, mo_shl, Int32.ofInt_toInt] at h; exact h)
theorem mo_ishr (X : mo_Cx κ lf ρf cc nL own ret d) {x y : Int} (hd : decode cc pc = .ok (.ishr, 1)) (kk : mo_V κ k n (pc + 1) ls (mo_iv (mo_shr x y) :: st) G M t) : mo_V κ k n pc ls (mo_iv y :: mo_iv x :: st) G M t := by
  obtain ⟨⟨p, l, e, R, s⟩, ⟨m, args, below, meth, c⟩, Q, ρ⟩ := κ
  obtain ⟨hx, hb, hml, hown, hts, hK, hlk, hrt, hb0, hRf, hRl, hlf, hρ⟩ := X
  intro H locs lr ht hR hS hl
  exact lv_ishr hx hb hd (by have h := kk H locs lr ht hR hS hl; rw [mo_iv, mo_shr, Int32.ofInt_toInt] at h; exact h)
theorem mo_i2l (X : mo_Cx κ lf ρf cc nL own ret d) {x : Int} (hd : decode cc pc = .ok (.i2l, 1)) (h1 : mo_In x) (kk : mo_V κ k n (pc + 1) ls (mo_jv x :: st) G M t) : mo_V κ k n pc ls (mo_iv x :: st) G M t := by
  obtain ⟨⟨p, l, e, R, s⟩, ⟨m, args, below, meth, c⟩, Q, ρ⟩ := κ
  obtain ⟨hx, hb, hml, hown, hts, hK, hlk, hrt, hb0, hRf, hRl, hlf, hρ⟩ := X
  intro H locs lr ht hR hS hl
  exact lv_i2l hx hb hd (by rw [← Int64.toInt_inj, Int32.toInt_toInt64, mo_ti h1, mo_tl (by omega)]) (kk H locs lr ht hR hS hl)
theorem mo_ladd (X : mo_Cx κ lf ρf cc nL own ret d) {x y : Int} (hd : decode cc pc = .ok (.ladd, 1)) (kk : mo_V κ k n (pc + 1) ls (mo_jv (x + y) :: st) G M t) : mo_V κ k n pc ls (mo_jv y :: mo_jv x :: st) G M t := by
  obtain ⟨⟨p, l, e, R, s⟩, ⟨m, args, below, meth, c⟩, Q, ρ⟩ := κ
  obtain ⟨hx, hb, hml, hown, hts, hK, hlk, hrt, hb0, hRf, hRl, hlf, hρ⟩ := X
  intro H locs lr ht hR hS hl
  exact lv_ladd hx hb hd (by rw [← Int64.ofInt_add]; exact kk H locs lr ht hR hS hl)
theorem mo_lsub (X : mo_Cx κ lf ρf cc nL own ret d) {x y : Int} (hd : decode cc pc = .ok (.lsub, 1)) (kk : mo_V κ k n (pc + 1) ls (mo_jv (x - y) :: st) G M t) : mo_V κ k n pc ls (mo_jv y :: mo_jv x :: st) G M t := by
  obtain ⟨⟨p, l, e, R, s⟩, ⟨m, args, below, meth, c⟩, Q, ρ⟩ := κ
  obtain ⟨hx, hb, hml, hown, hts, hK, hlk, hrt, hb0, hRf, hRl, hlf, hρ⟩ := X
  intro H locs lr ht hR hS hl
  exact lv_lsub hx hb hd (by rw [← Int64.ofInt_sub]; exact kk H locs lr ht hR hS hl)
theorem mo_lmul (X : mo_Cx κ lf ρf cc nL own ret d) {x y : Int} (hd : decode cc pc = .ok (.lmul, 1)) (kk : mo_V κ k n (pc + 1) ls (mo_jv (x * y) :: st) G M t) : mo_V κ k n pc ls (mo_jv y :: mo_jv x :: st) G M t := by
  obtain ⟨⟨p, l, e, R, s⟩, ⟨m, args, below, meth, c⟩, Q, ρ⟩ := κ
  obtain ⟨hx, hb, hml, hown, hts, hK, hlk, hrt, hb0, hRf, hRl, hlf, hρ⟩ := X
  intro H locs lr ht hR hS hl
  exact lv_lmul hx hb hd (by rw [← Int64.ofInt_mul]; exact kk H locs lr ht hR hS hl)
theorem mo_lsh (X : mo_Cx κ lf ρf cc nL own ret d) {x y : Int} (hd : decode cc pc = .ok (.lshl, 1)) (kk : mo_V κ k n (pc + 1) ls (mo_jv (mo_lshl x y) :: st) G M t) : mo_V κ k n pc ls (mo_iv y :: mo_jv x :: st) G M t := by
  obtain ⟨⟨p, l, e, R, s⟩, ⟨m, args, below, meth, c⟩, Q, ρ⟩ := κ
  obtain ⟨hx, hb, hml, hown, hts, hK, hlk, hrt, hb0, hRf, hRl, hlf, hρ⟩ := X
  intro H locs lr ht hR hS hl
  exact lv_lshl hx hb hd (by rw [mo_lshl, Int64.ofInt_toInt]) (kk H locs lr ht hR hS hl)
def mo_cmp (x y : Int) : Int := if y < x then 1 else if x = y then 0 else -1
theorem mo_cmpL {x y : Int} (h1 : mo_Jn x) (h2 : mo_Jn y) : lg_cmp (Int64.ofInt x) (Int64.ofInt y) = Int32.ofInt (mo_cmp x y) := by
  unfold lg_cmp mo_cmp
  have e1 : (Int64.ofInt x > Int64.ofInt y) ↔ y < x := by
    show Int64.ofInt y < Int64.ofInt x ↔ _
    rw [Int64.lt_iff_toInt_lt, mo_tl h1, mo_tl h2]
  have e2 : (Int64.ofInt x = Int64.ofInt y) ↔ x = y := by rw [← Int64.toInt_inj, mo_tl h1, mo_tl h2]
  by_cases c1 : y < x
  · rw [if_pos (e1.mpr c1), if_pos c1]; decide
  · rw [if_neg (fun h => c1 (e1.mp h)), if_neg c1]
    by_cases c2 : x = y
    · rw [if_pos (e2.mpr c2), if_pos c2]; decide
    · rw [if_neg (fun h => c2 (e2.mp h)), if_neg c2]; decide
theorem mo_cmpS (x : Int) : lg_cmp (Int64.ofInt x) (Int64.ofInt x) = Int32.ofInt 0 := by
  unfold lg_cmp
  rw [if_neg (show ¬ Int64.ofInt x > Int64.ofInt x from Int64.lt_irrefl), if_pos rfl]; decide
theorem mo_lcmp (X : mo_Cx κ lf ρf cc nL own ret d) {x y : Int} (hd : decode cc pc = .ok (.lcmp, 1)) (h1 : mo_Jn x) (h2 : mo_Jn y) (kk : mo_V κ k n (pc + 1) ls (mo_iv (mo_cmp x y) :: st) G M t) : mo_V κ k n pc ls (mo_jv y :: mo_jv x :: st) G M t := by
  obtain ⟨⟨p, l, e, R, s⟩, ⟨m, args, below, meth, c⟩, Q, ρ⟩ := κ
  obtain ⟨hx, hb, hml, hown, hts, hK, hlk, hrt, hb0, hRf, hRl, hlf, hρ⟩ := X
  intro H locs lr ht hR hS hl
  exact W.lcmp hx hb hd (by rw [mo_cmpL h1 h2]; exact kk H locs lr ht hR hS hl)
theorem mo_lcmpS (X : mo_Cx κ lf ρf cc nL own ret d) {x : Int} (hd : decode cc pc = .ok (.lcmp, 1)) (kk : mo_V κ k n (pc + 1) ls (mo_iv 0 :: st) G M t) : mo_V κ k n pc ls (mo_jv x :: mo_jv x :: st) G M t := by
  obtain ⟨⟨p, l, e, R, s⟩, ⟨m, args, below, meth, c⟩, Q, ρ⟩ := κ
  obtain ⟨hx, hb, hml, hown, hts, hK, hlk, hrt, hb0, hRf, hRl, hlf, hρ⟩ := X
  intro H locs lr ht hR hS hl
  exact W.lcmp hx hb hd (by rw [mo_cmpS]; exact kk H locs lr ht hR hS hl)
theorem mo_if_eq (X : mo_Cx κ lf ρf cc nL own ret d) {x : Int} {off : Int} {tgt : Nat} (hd : decode cc pc = .ok (.ifCond .eq off, 3)) (ht : (pc : Int) + off = (tgt : Int)) (hx0 : mo_In x) (kt : x = 0 → mo_V κ k n tgt ls st G M t) (kf : x ≠ 0 → mo_V κ k n (pc + 3) ls st G M t) : mo_V κ k n pc ls (mo_iv x :: st) G M t := by
  obtain ⟨⟨p, l, e, R, s⟩, ⟨m, args, below, meth, c⟩, Q, ρ⟩ := κ
  obtain ⟨hx, hb, hml, hown, hts, hK, hlk, hrt, hb0, hRf, hRl, hlf, hρ⟩ := X
  intro H locs lr hsz hR hS hl
  exact lv_if_eq hx hb hd ht (fun h => kt (by rw [mo_0, mo_eq hx0 (by omega : mo_In 0)] at h; exact h) H locs lr hsz hR hS hl) (fun h => kf (by rw [mo_0, mo_eq hx0 (by omega : mo_In 0)] at h; exact h) H locs lr hsz hR hS hl)
theorem mo_if_ne (X : mo_Cx κ lf ρf cc nL own ret d) {x : Int} {off : Int} {tgt : Nat} (hd : decode cc pc = .ok (.ifCond .ne off, 3)) (ht : (pc : Int) + off = (tgt : Int)) (hx0 : mo_In x) (kt : x ≠ 0 → mo_V κ k n tgt ls st G M t) (kf : x = 0 → mo_V κ k n (pc + 3) ls st G M t) : mo_V κ k n pc ls (mo_iv x :: st) G M t := by
  obtain ⟨⟨p, l, e, R, s⟩, ⟨m, args, below, meth, c⟩, Q, ρ⟩ := κ
  obtain ⟨hx, hb, hml, hown, hts, hK, hlk, hrt, hb0, hRf, hRl, hlf, hρ⟩ := X
  intro H locs lr hsz hR hS hl
  exact lv_if_ne hx hb hd ht (fun h => kt (by rw [mo_0, mo_eq hx0 (by omega : mo_In 0)] at h; exact h) H locs lr hsz hR hS hl) (fun h => kf (by rw [mo_0, mo_eq hx0 (by omega : mo_In 0)] at h; omega) H locs lr hsz hR hS hl)
theorem mo_if_lt (X : mo_Cx κ lf ρf cc nL own ret d) {x : Int} {off : Int} {tgt : Nat} (hd : decode cc pc = .ok (.ifCond .lt off, 3)) (ht : (pc : Int) + off = (tgt : Int)) (hx0 : mo_In x) (kt : x < 0 → mo_V κ k n tgt ls st G M t) (kf : 0 ≤ x → mo_V κ k n (pc + 3) ls st G M t) : mo_V κ k n pc ls (mo_iv x :: st) G M t := by
  obtain ⟨⟨p, l, e, R, s⟩, ⟨m, args, below, meth, c⟩, Q, ρ⟩ := κ
  obtain ⟨hx, hb, hml, hown, hts, hK, hlk, hrt, hb0, hRf, hRl, hlf, hρ⟩ := X
  intro H locs lr hsz hR hS hl
  exact lv_if_lt hx hb hd ht (fun h => kt (by rw [mo_0, mo_lt hx0 (by omega : mo_In 0)] at h; exact h) H locs lr hsz hR hS hl) (fun h => kf (by rw [mo_0, mo_lt hx0 (by omega : mo_In 0)] at h; omega) H locs lr hsz hR hS hl)
theorem mo_if_ge (X : mo_Cx κ lf ρf cc nL own ret d) {x : Int} {off : Int} {tgt : Nat} (hd : decode cc pc = .ok (.ifCond .ge off, 3)) (ht : (pc : Int) + off = (tgt : Int)) (hx0 : mo_In x) (kt : 0 ≤ x → mo_V κ k n tgt ls st G M t) (kf : x < 0 → mo_V κ k n (pc + 3) ls st G M t) : mo_V κ k n pc ls (mo_iv x :: st) G M t := by
  obtain ⟨⟨p, l, e, R, s⟩, ⟨m, args, below, meth, c⟩, Q, ρ⟩ := κ
  obtain ⟨hx, hb, hml, hown, hts, hK, hlk, hrt, hb0, hRf, hRl, hlf, hρ⟩ := X
  intro H locs lr hsz hR hS hl
  exact lv_if_ge hx hb hd ht (fun h => kt (by rw [mo_0, mo_le (by omega : mo_In 0) hx0] at h; exact h) H locs lr hsz hR hS hl) (fun h => kf (by rw [mo_0, mo_le (by omega : mo_In 0) hx0] at h; omega) H locs lr hsz hR hS hl)
theorem mo_if_gt (X : mo_Cx κ lf ρf cc nL own ret d) {x : Int} {off : Int} {tgt : Nat} (hd : decode cc pc = .ok (.ifCond .gt off, 3)) (ht : (pc : Int) + off = (tgt : Int)) (hx0 : mo_In x) (kt : 0 < x → mo_V κ k n tgt ls st G M t) (kf : x ≤ 0 → mo_V κ k n (pc + 3) ls st G M t) : mo_V κ k n pc ls (mo_iv x :: st) G M t := by
  obtain ⟨⟨p, l, e, R, s⟩, ⟨m, args, below, meth, c⟩, Q, ρ⟩ := κ
  obtain ⟨hx, hb, hml, hown, hts, hK, hlk, hrt, hb0, hRf, hRl, hlf, hρ⟩ := X
  intro H locs lr hsz hR hS hl
  exact lv_if_gt hx hb hd ht (fun h => kt (by rw [mo_0, mo_lt (by omega : mo_In 0) hx0] at h; exact h) H locs lr hsz hR hS hl) (fun h => kf (by rw [mo_0, mo_lt (by omega : mo_In 0) hx0] at h; omega) H locs lr hsz hR hS hl)
theorem mo_if_le (X : mo_Cx κ lf ρf cc nL own ret d) {x : Int} {off : Int} {tgt : Nat} (hd : decode cc pc = .ok (.ifCond .le off, 3)) (ht : (pc : Int) + off = (tgt : Int)) (hx0 : mo_In x) (kt : x ≤ 0 → mo_V κ k n tgt ls st G M t) (kf : 0 < x → mo_V κ k n (pc + 3) ls st G M t) : mo_V κ k n pc ls (mo_iv x :: st) G M t := by
  obtain ⟨⟨p, l, e, R, s⟩, ⟨m, args, below, meth, c⟩, Q, ρ⟩ := κ
  obtain ⟨hx, hb, hml, hown, hts, hK, hlk, hrt, hb0, hRf, hRl, hlf, hρ⟩ := X
  intro H locs lr hsz hR hS hl
  exact lv_if_le hx hb hd ht (fun h => kt (by rw [mo_0, mo_le hx0 (by omega : mo_In 0)] at h; exact h) H locs lr hsz hR hS hl) (fun h => kf (by rw [mo_0, mo_le hx0 (by omega : mo_In 0)] at h; omega) H locs lr hsz hR hS hl)
theorem mo_ic_eq (X : mo_Cx κ lf ρf cc nL own ret d) {x y : Int} {off : Int} {tgt : Nat} (hd : decode cc pc = .ok (.if_icmp .eq off, 3)) (ht : (pc : Int) + off = (tgt : Int)) (hx0 : mo_In x) (hy0 : mo_In y) (kt : x = y → mo_V κ k n tgt ls st G M t) (kf : x ≠ y → mo_V κ k n (pc + 3) ls st G M t) : mo_V κ k n pc ls (mo_iv y :: mo_iv x :: st) G M t := by
  obtain ⟨⟨p, l, e, R, s⟩, ⟨m, args, below, meth, c⟩, Q, ρ⟩ := κ
  obtain ⟨hx, hb, hml, hown, hts, hK, hlk, hrt, hb0, hRf, hRl, hlf, hρ⟩ := X
  intro H locs lr hsz hR hS hl
  exact lv_icmp_eq hx hb hd ht (fun h => kt (by rw [mo_eq hx0 hy0] at h; exact h) H locs lr hsz hR hS hl) (fun h => kf (by rw [mo_eq hx0 hy0] at h; exact h) H locs lr hsz hR hS hl)
theorem mo_ic_ne (X : mo_Cx κ lf ρf cc nL own ret d) {x y : Int} {off : Int} {tgt : Nat} (hd : decode cc pc = .ok (.if_icmp .ne off, 3)) (ht : (pc : Int) + off = (tgt : Int)) (hx0 : mo_In x) (hy0 : mo_In y) (kt : x ≠ y → mo_V κ k n tgt ls st G M t) (kf : x = y → mo_V κ k n (pc + 3) ls st G M t) : mo_V κ k n pc ls (mo_iv y :: mo_iv x :: st) G M t := by
  obtain ⟨⟨p, l, e, R, s⟩, ⟨m, args, below, meth, c⟩, Q, ρ⟩ := κ
  obtain ⟨hx, hb, hml, hown, hts, hK, hlk, hrt, hb0, hRf, hRl, hlf, hρ⟩ := X
  intro H locs lr hsz hR hS hl
  exact lv_icmp_ne hx hb hd ht (fun h => kt (by rw [mo_eq hx0 hy0] at h; exact h) H locs lr hsz hR hS hl) (fun h => kf (by rw [mo_eq hx0 hy0] at h; omega) H locs lr hsz hR hS hl)
theorem mo_ic_lt (X : mo_Cx κ lf ρf cc nL own ret d) {x y : Int} {off : Int} {tgt : Nat} (hd : decode cc pc = .ok (.if_icmp .lt off, 3)) (ht : (pc : Int) + off = (tgt : Int)) (hx0 : mo_In x) (hy0 : mo_In y) (kt : x < y → mo_V κ k n tgt ls st G M t) (kf : y ≤ x → mo_V κ k n (pc + 3) ls st G M t) : mo_V κ k n pc ls (mo_iv y :: mo_iv x :: st) G M t := by
  obtain ⟨⟨p, l, e, R, s⟩, ⟨m, args, below, meth, c⟩, Q, ρ⟩ := κ
  obtain ⟨hx, hb, hml, hown, hts, hK, hlk, hrt, hb0, hRf, hRl, hlf, hρ⟩ := X
  intro H locs lr hsz hR hS hl
  exact lv_icmp_lt hx hb hd ht (fun h => kt (by rw [mo_lt hx0 hy0] at h; exact h) H locs lr hsz hR hS hl) (fun h => kf (by rw [mo_lt hx0 hy0] at h; omega) H locs lr hsz hR hS hl)
theorem mo_ic_ge (X : mo_Cx κ lf ρf cc nL own ret d) {x y : Int} {off : Int} {tgt : Nat} (hd : decode cc pc = .ok (.if_icmp .ge off, 3)) (ht : (pc : Int) + off = (tgt : Int)) (hx0 : mo_In x) (hy0 : mo_In y) (kt : y ≤ x → mo_V κ k n tgt ls st G M t) (kf : x < y → mo_V κ k n (pc + 3) ls st G M t) : mo_V κ k n pc ls (mo_iv y :: mo_iv x :: st) G M t := by
  obtain ⟨⟨p, l, e, R, s⟩, ⟨m, args, below, meth, c⟩, Q, ρ⟩ := κ
  obtain ⟨hx, hb, hml, hown, hts, hK, hlk, hrt, hb0, hRf, hRl, hlf, hρ⟩ := X
  intro H locs lr hsz hR hS hl
  exact lv_icmp_ge hx hb hd ht (fun h => kt (by rw [mo_le hy0 hx0] at h; exact h) H locs lr hsz hR hS hl) (fun h => kf (by rw [mo_le hy0 hx0] at h; omega) H locs lr hsz hR hS hl)
theorem mo_ic_gt (X : mo_Cx κ lf ρf cc nL own ret d) {x y : Int} {off : Int} {tgt : Nat} (hd : decode cc pc = .ok (.if_icmp .gt off, 3)) (ht : (pc : Int) + off = (tgt : Int)) (hx0 : mo_In x) (hy0 : mo_In y) (kt : y < x → mo_V κ k n tgt ls st G M t) (kf : x ≤ y → mo_V κ k n (pc + 3) ls st G M t) : mo_V κ k n pc ls (mo_iv y :: mo_iv x :: st) G M t := by
  obtain ⟨⟨p, l, e, R, s⟩, ⟨m, args, below, meth, c⟩, Q, ρ⟩ := κ
  obtain ⟨hx, hb, hml, hown, hts, hK, hlk, hrt, hb0, hRf, hRl, hlf, hρ⟩ := X
  intro H locs lr hsz hR hS hl
  exact lv_icmp_gt hx hb hd ht (fun h => kt (by rw [mo_lt hy0 hx0] at h; exact h) H locs lr hsz hR hS hl) (fun h => kf (by rw [mo_lt hy0 hx0] at h; omega) H locs lr hsz hR hS hl)
theorem mo_ic_le (X : mo_Cx κ lf ρf cc nL own ret d) {x y : Int} {off : Int} {tgt : Nat} (hd : decode cc pc = .ok (.if_icmp .le off, 3)) (ht : (pc : Int) + off = (tgt : Int)) (hx0 : mo_In x) (hy0 : mo_In y) (kt : x ≤ y → mo_V κ k n tgt ls st G M t) (kf : y < x → mo_V κ k n (pc + 3) ls st G M t) : mo_V κ k n pc ls (mo_iv y :: mo_iv x :: st) G M t := by
  obtain ⟨⟨p, l, e, R, s⟩, ⟨m, args, below, meth, c⟩, Q, ρ⟩ := κ
  obtain ⟨hx, hb, hml, hown, hts, hK, hlk, hrt, hb0, hRf, hRl, hlf, hρ⟩ := X
  intro H locs lr hsz hR hS hl
  exact lv_icmp_le hx hb hd ht (fun h => kt (by rw [mo_le hx0 hy0] at h; exact h) H locs lr hsz hR hS hl) (fun h => kf (by rw [mo_le hx0 hy0] at h; omega) H locs lr hsz hR hS hl)
theorem mo_goto (X : mo_Cx κ lf ρf cc nL own ret d) {off : Int} {tgt : Nat} (hd : decode cc pc = .ok (.goto off, 3)) (htg : (pc : Int) + off = (tgt : Int)) (kk : mo_V κ k n tgt ls st G M t) : mo_V κ k n pc ls st G M t := by
  obtain ⟨⟨p, l, e, R, s⟩, ⟨m, args, below, meth, c⟩, Q, ρ⟩ := κ
  obtain ⟨hx, hb, hml, hown, hts, hK, hlk, hrt, hb0, hRf, hRl, hlf, hρ⟩ := X
  intro H locs lr ht hR hS hl
  exact lv_goto hx hb hd htg (kk H locs lr ht hR hS hl)
theorem mo_ifnull (X : mo_Cx κ lf ρf cc nL own ret d) {x : Nat} {off : Int} (hd : decode cc pc = .ok (.ifnull off, 3)) (kk : mo_V κ k n (pc + 3) ls st G M t) : mo_V κ k n pc ls (.ref x :: st) G M t := by
  obtain ⟨⟨p, l, e, R, s⟩, ⟨m, args, below, meth, c⟩, Q, ρ⟩ := κ
  obtain ⟨hx, hb, hml, hown, hts, hK, hlk, hrt, hb0, hRf, hRl, hlf, hρ⟩ := X
  intro H locs lr ht hR hS hl
  exact lv_ifnull hx hb hd (kk H locs lr ht hR hS hl)
theorem mo_ifnonnull (X : mo_Cx κ lf ρf cc nL own ret d) {x : Nat} {off : Int} {tgt : Nat} (hd : decode cc pc = .ok (.ifnonnull off, 3)) (htg : (pc : Int) + off = (tgt : Int)) (kk : mo_V κ k n tgt ls st G M t) : mo_V κ k n pc ls (.ref x :: st) G M t := by
  obtain ⟨⟨p, l, e, R, s⟩, ⟨m, args, below, meth, c⟩, Q, ρ⟩ := κ
  obtain ⟨hx, hb, hml, hown, hts, hK, hlk, hrt, hb0, hRf, hRl, hlf, hρ⟩ := X
  intro H locs lr ht hR hS hl
  exact lv_ifnonnull hx hb hd htg (kk H locs lr ht hR hS hl)
theorem mo_dup (X : mo_Cx κ lf ρf cc nL own ret d) {v : Value} (hd : decode cc pc = .ok (.dup, 1)) (hv : v.category = 1) (kk : mo_V κ k n (pc + 1) ls (v :: v :: st) G M t) : mo_V κ k n pc ls (v :: st) G M t := by
  obtain ⟨⟨p, l, e, R, s⟩, ⟨m, args, below, meth, c⟩, Q, ρ⟩ := κ
  obtain ⟨hx, hb, hml, hown, hts, hK, hlk, hrt, hb0, hRf, hRl, hlf, hρ⟩ := X
  intro H locs lr ht hR hS hl
  exact lv_dup hx hb hd hv (kk H locs lr ht hR hS hl)
theorem mo_pop (X : mo_Cx κ lf ρf cc nL own ret d) {v : Value} (hd : decode cc pc = .ok (.pop, 1)) (hv : v.category = 1) (kk : mo_V κ k n (pc + 1) ls st G M t) : mo_V κ k n pc ls (v :: st) G M t := by
  obtain ⟨⟨p, l, e, R, s⟩, ⟨m, args, below, meth, c⟩, Q, ρ⟩ := κ
  obtain ⟨hx, hb, hml, hown, hts, hK, hlk, hrt, hb0, hRf, hRl, hlf, hρ⟩ := X
  intro H locs lr ht hR hS hl
  exact lv_pop hx hb hd hv (kk H locs lr ht hR hS hl)
theorem mo_dup2 (X : mo_Cx κ lf ρf cc nL own ret d) {v z : Value} (hd : decode cc pc = .ok (.dup2, 1)) (hv : v.category = 1) (hz : z.category = 1) (kk : mo_V κ k n (pc + 1) ls (v :: z :: v :: z :: st) G M t) : mo_V κ k n pc ls (v :: z :: st) G M t := by
  obtain ⟨⟨p, l, e, R, s⟩, ⟨m, args, below, meth, c⟩, Q, ρ⟩ := κ
  obtain ⟨hx, hb, hml, hown, hts, hK, hlk, hrt, hb0, hRf, hRl, hlf, hρ⟩ := X
  intro H locs lr ht hR hS hl
  exact lv_dup2_11 hx hb hd hv hz (kk H locs lr ht hR hS hl)
end MOR
end
section
/-! THE V LAYER, second half: fields, arrays, calls, ends -/
theorem mo_tb1 {w : Cond} (i : Nat) (h : tables_1_1[i]? = some w) (g : goodWord w = true) : w ∈ mo_B := List.mem_filter.mpr ⟨List.mem_append_right _ (show w ∈ tables_1_1 ++ (tables_1_2 ++ (tables_1_3 ++ (tables_1_4 ++ (tables_1_5 ++ tables_1_6)))) from List.mem_append_left _ (List.mem_of_getElem? h)), g⟩
theorem mo_tb2 {w : Cond} (i : Nat) (h : tables_1_2[i]? = some w) (g : goodWord w = true) : w ∈ mo_B := List.mem_filter.mpr ⟨List.mem_append_right _ (show w ∈ tables_1_1 ++ (tables_1_2 ++ (tables_1_3 ++ (tables_1_4 ++ (tables_1_5 ++ tables_1_6)))) from List.mem_append_right _ (List.mem_append_left _ (List.mem_of_getElem? h))), g⟩
theorem mo_tb3 {w : Cond} (i : Nat) (h : tables_1_3[i]? = some w) (g : goodWord w = true) : w ∈ mo_B := List.mem_filter.mpr ⟨List.mem_append_right _ (show w ∈ tables_1_1 ++ (tables_1_2 ++ (tables_1_3 ++ (tables_1_4 ++ (tables_1_5 ++ tables_1_6)))) from List.mem_append_right _ (List.mem_append_right _ (List.mem_append_left _ (List.mem_of_getElem? h)))), g⟩
theorem mo_tb4 {w : Cond} (i : Nat) (h : tables_1_4[i]? = some w) (g : goodWord w = true) : w ∈ mo_B := List.mem_filter.mpr ⟨List.mem_append_right _ (show w ∈ tables_1_1 ++ (tables_1_2 ++ (tables_1_3 ++ (tables_1_4 ++ (tables_1_5 ++ tables_1_6)))) from List.mem_append_right _ (List.mem_append_right _ (List.mem_append_right _ (List.mem_append_left _ (List.mem_of_getElem? h))))), g⟩
theorem mo_tb5 {w : Cond} (i : Nat) (h : tables_1_5[i]? = some w) (g : goodWord w = true) : w ∈ mo_B := List.mem_filter.mpr ⟨List.mem_append_right _ (show w ∈ tables_1_1 ++ (tables_1_2 ++ (tables_1_3 ++ (tables_1_4 ++ (tables_1_5 ++ tables_1_6)))) from List.mem_append_right _ (List.mem_append_right _ (List.mem_append_right _ (List.mem_append_right _ (List.mem_append_left _ (List.mem_of_getElem? h)))))), g⟩
theorem mo_tb6 {w : Cond} (i : Nat) (h : tables_1_6[i]? = some w) (g : goodWord w = true) : w ∈ mo_B := List.mem_filter.mpr ⟨List.mem_append_right _ (show w ∈ tables_1_1 ++ (tables_1_2 ++ (tables_1_3 ++ (tables_1_4 ++ (tables_1_5 ++ tables_1_6)))) from List.mem_append_right _ (List.mem_append_right _ (List.mem_append_right _ (List.mem_append_right _ (List.mem_append_right _ (List.mem_of_getElem? h)))))), g⟩
theorem mo_pv1 {y : MethodName} {w : Cond} {nn : Nat} (i : Nat) (h : lw_privs_1[i]? = some (y, nn)) (g : Cond.selects y.cls y y = w) : w ∈ mo_B := by
  have h1 : (y, nn) ∈ lw_privs := show (y, nn) ∈ lw_privs_1 ++ (lw_privs_2 ++ (lw_privs_3 ++ (lw_privs_4 ++ (lw_privs_5)))) from List.mem_append_left _ (List.mem_of_getElem? h)
  refine List.mem_filter.mpr ⟨List.mem_append_left _ (List.mem_map.mpr ⟨(y, nn), h1, g⟩), ?_⟩
  rw [← g]
  rfl
theorem mo_pv2 {y : MethodName} {w : Cond} {nn : Nat} (i : Nat) (h : lw_privs_2[i]? = some (y, nn)) (g : Cond.selects y.cls y y = w) : w ∈ mo_B := by
  have h1 : (y, nn) ∈ lw_privs := show (y, nn) ∈ lw_privs_1 ++ (lw_privs_2 ++ (lw_privs_3 ++ (lw_privs_4 ++ (lw_privs_5)))) from List.mem_append_right _ (List.mem_append_left _ (List.mem_of_getElem? h))
  refine List.mem_filter.mpr ⟨List.mem_append_left _ (List.mem_map.mpr ⟨(y, nn), h1, g⟩), ?_⟩
  rw [← g]
  rfl
theorem mo_pv3 {y : MethodName} {w : Cond} {nn : Nat} (i : Nat) (h : lw_privs_3[i]? = some (y, nn)) (g : Cond.selects y.cls y y = w) : w ∈ mo_B := by
  have h1 : (y, nn) ∈ lw_privs := show (y, nn) ∈ lw_privs_1 ++ (lw_privs_2 ++ (lw_privs_3 ++ (lw_privs_4 ++ (lw_privs_5)))) from List.mem_append_right _ (List.mem_append_right _ (List.mem_append_left _ (List.mem_of_getElem? h)))
  refine List.mem_filter.mpr ⟨List.mem_append_left _ (List.mem_map.mpr ⟨(y, nn), h1, g⟩), ?_⟩
  rw [← g]
  rfl
theorem mo_pv4 {y : MethodName} {w : Cond} {nn : Nat} (i : Nat) (h : lw_privs_4[i]? = some (y, nn)) (g : Cond.selects y.cls y y = w) : w ∈ mo_B := by
  have h1 : (y, nn) ∈ lw_privs := show (y, nn) ∈ lw_privs_1 ++ (lw_privs_2 ++ (lw_privs_3 ++ (lw_privs_4 ++ (lw_privs_5)))) from List.mem_append_right _ (List.mem_append_right _ (List.mem_append_right _ (List.mem_append_left _ (List.mem_of_getElem? h))))
  refine List.mem_filter.mpr ⟨List.mem_append_left _ (List.mem_map.mpr ⟨(y, nn), h1, g⟩), ?_⟩
  rw [← g]
  rfl
theorem mo_pv5 {y : MethodName} {w : Cond} {nn : Nat} (i : Nat) (h : lw_privs_5[i]? = some (y, nn)) (g : Cond.selects y.cls y y = w) : w ∈ mo_B := by
  have h1 : (y, nn) ∈ lw_privs := show (y, nn) ∈ lw_privs_1 ++ (lw_privs_2 ++ (lw_privs_3 ++ (lw_privs_4 ++ (lw_privs_5)))) from List.mem_append_right _ (List.mem_append_right _ (List.mem_append_right _ (List.mem_append_right _ (List.mem_of_getElem? h))))
  refine List.mem_filter.mpr ⟨List.mem_append_left _ (List.mem_map.mpr ⟨(y, nn), h1, g⟩), ?_⟩
  rw [← g]
  rfl
theorem mo_wsys : Cond.initialized "java/lang/System" ∈ mo_B := mo_tb1 13 rfl rfl
theorem mo_gd {w : Cond} (h : w ∈ mo_B) : (w.onTables && w.keeps) = true ∨ ∃ ty, w = .arrayClass ty := good_of_word (List.mem_filter.mp h).2
def mo_LkV (own : String) (index : Nat) (C : String) (y : MethodName) (bytes : ByteArray) (maxL : Nat) (ret : Option FieldType) : Prop := Cond.methodLink own index y ∈ mo_B ∧ Cond.instanceMethod y ∈ mo_B ∧ Cond.selects C y y ∈ mo_B ∧ Cond.initialized C ∈ mo_B ∧ Cond.code y bytes maxL ret ∈ mo_B
def mo_LkS (own : String) (index : Nat) (y : MethodName) (bytes : ByteArray) (maxL : Nat) (ret : Option FieldType) : Prop := Cond.methodLink own index y ∈ mo_B ∧ Cond.static y ∈ mo_B ∧ Cond.initialized y.cls ∈ mo_B ∧ Cond.code y bytes maxL ret ∈ mo_B
def mo_LkI (own : String) (index : Nat) (y : MethodName) (bytes : ByteArray) (maxL : Nat) : Prop := Cond.methodLink own index y ∈ mo_B ∧ Cond.instanceMethod y ∈ mo_B ∧ Cond.initialized y.cls ∈ mo_B ∧ Cond.code y bytes maxL none ∈ mo_B
theorem mo_gw {y : MethodName} {cc : ByteArray} {maxL : Nat} {ret : Option FieldType} (h : Cond.code y cc maxL ret ∈ mo_B) : GoodIn mo_B (mo_ws y cc maxL ret) := fun w hw => by
  rcases List.mem_cons.mp hw with e | e
  · rw [e]; exact ⟨h, mo_gd h⟩
  · exact ⟨e, mo_gd e⟩
theorem mo_gwV {own : String} {index : Nat} {C : String} {y : MethodName} {cc : ByteArray} {maxL : Nat} {ret : Option FieldType} (h : mo_LkV own index C y cc maxL ret) : GoodIn mo_B (wsV own index C y (mo_ws y cc maxL ret)) := fun w hw => by
  obtain ⟨h1, h2, h3, h4, h5⟩ := h
  rcases List.mem_append.mp hw with e | e
  · simp only [List.mem_cons, List.not_mem_nil, or_false] at e
    rcases e with rfl | rfl | rfl | rfl
    · exact ⟨h1, mo_gd h1⟩
    · exact ⟨h2, mo_gd h2⟩
    · exact ⟨h3, mo_gd h3⟩
    · exact ⟨h4, mo_gd h4⟩
  · exact mo_gw h5 w e
theorem mo_gwS {own : String} {index : Nat} {y : MethodName} {cc : ByteArray} {maxL : Nat} {ret : Option FieldType} (h : mo_LkS own index y cc maxL ret) : GoodIn mo_B (va_wsS own index y (mo_ws y cc maxL ret)) := fun w hw => by
  obtain ⟨h1, h2, h3, h5⟩ := h
  rcases List.mem_append.mp hw with e | e
  · simp only [List.mem_cons, List.not_mem_nil, or_false] at e
    rcases e with rfl | rfl | rfl
    · exact ⟨h1, mo_gd h1⟩
    · exact ⟨h2, mo_gd h2⟩
    · exact ⟨h3, mo_gd h3⟩
  · exact mo_gw h5 w e
theorem mo_fb (av : List Value) (ρ : mo_E) (G : mo_G) (M : mo_M) (t : Nat) : FrameBlind (va_Pc av (mo_Bc ρ G M t)) := fun a U g mk q => by
  obtain ⟨q0, q1, q2, q3, q4⟩ := q
  exact ⟨q0, q1, q2, va_K.moved (u := U) (U := U.calling g mk a) (Vm.Alike.refl U.vm) q3, q4⟩
theorem mo_back {p : Program} {l : Launch} {e : Env} {R : Room} {s : State} {m : MethodId} {args : Array Value} {below : List Frame} {meth : Method} {c : Code} {H : Heap} {locs : List Loc} {k n kc ks pc : Nat} {lr : Array Slot} {st0 rest : List Value} {ρ : mo_E} {post : Option Value → mo_G → mo_M → Nat → Prop} {av : Array Value} {Q : State → Prop}
    (hr : va_Run p l e R s m args below meth c H locs k n kc ks (F0 m pc lr st0) rest (mo_Qc ρ post av) (mo_fr ρ)) (hS : va_S (fun q => ρ.2.2 ≤ q) s.heap H locs)
    (kk : ∀ (v : Option Value) (G' : mo_G) (M' : mo_M) (t' : Nat), post v G' M' t' → ∀ (H' : Heap) (locs' : List Loc), H'.size = t' → mo_R ρ G' M' H' → va_S (fun q => ρ.2.2 ≤ q) s.heap H' locs' → W p l e R s m args below meth c H' locs' (k + kc) (n + ks) Q (F0 m (pc + 3) lr (v.toList ++ rest))) : W p l e R s m args below meth c H locs k n Q (F0 m pc lr st0) := by
  intro T hT X
  obtain ⟨v, st₀, t, T', L, h0, X', hL, e1, e2, ⟨⟨v', G', M', hv, hp, hR'⟩, hz, hk⟩, st⟩ := hr T hT X
  obtain rfl : v = v' := Outcome.returned.inj hv
  rw [h0] at hz hk
  have hS' : va_S (fun q => ρ.2.2 ≤ q) s.heap T'.heap (locs ++ L) := by
    refine ⟨Nat.le_trans hS.1 (by rw [e1]; exact hz), fun q h1 h2 => ?_, fun q hq => ?_⟩
    · rw [e1, hk q (Nat.lt_of_lt_of_le h1 hS.1) h2]
      exact hS.2.1 q h1 h2
    · rcases List.mem_append.mp hq with h | h
      · exact hS.2.2 q h
      · exact hL q h
  obtain ⟨t2, a1, b1⟩ := kk v G' M' t.heap.size hp T'.heap (locs ++ L) (by rw [e1]) (by rw [e1]; exact hR') hS' T' rfl X'
  exact ⟨t2, st t2 a1, b1⟩
def mo_Rm (κ : mo_T) (a b : Nat) : Prop := a ≤ κ.1.2.2.2.1.cells ∧ b ≤ κ.1.2.2.2.1.slots
def mo_dV (y : MethodName) (C : String) (n : Nat) : Prop := y.cls = C ∧ y.cls ≠ "java/lang/invoke/MethodHandle" ∧ y.cls ≠ "java/lang/invoke/VarHandle" ∧ (parseMethodDescriptor y.desc).map (fun d => d.parameters.length) = some n
section MOS
variable {κ : mo_T} {lf : Launch} {ρf : mo_E} {cc : ByteArray} {nL : Nat} {own : String} {ret : Option FieldType} {d k n pc : Nat} {ls : List (Option Value)} {st : List Value} {G : mo_G} {M : mo_M} {t : Nat}

theorem mo_gI (X : mo_Cx κ lf ρf cc nL own ret d) {C : String} {T : u_T} {N ci j a index : Nat} (hc : vwCl[ci]? = some (C, T, N)) (hin : ∀ w ∈ u_ws C T N, w ∈ mo_B) (hj : j < N) (hjn : j < mo_fn ci) (hlink : Cond.fieldLink own index (T j).1 (T j).2.1 (T j).2.2.1 ∈ mo_B) (hk : mo_fk ci j = 0) (hd : decode cc pc = .ok (.getfield index, 3)) (hG : G.1 a = some (.inl ci))  (kk : mo_V κ k n (pc + 3) ls (mo_iv (M a j) :: st) G M t) : mo_V κ k n pc ls (.ref a :: st) G M t := by
  obtain ⟨⟨p, l, e, R, s⟩, ⟨m, args, below, meth, c⟩, Q, ρ⟩ := κ
  obtain ⟨hx, hb, hml, hown, hts, hK, hlk, hrt, hb0, hRf, hRl, hlf, hρ⟩ := X
  intro H locs lr ht hR hS hl
  have hv : (mo_fs G M a ci)[j]? = some (mo_iv (M a j)) := by
    rw [mo_fs_at G M a ci hjn]
    unfold mo_fv
    rw [hk]
    rfl
  exact va_get (D := ρ.1) (tys := mo_tys ρ) (cl := vwCl) hx hb hts hin hown hK (mo_one (hR a _ hG).2) 0 rfl hc j hj (hts _ hlink) (fun _ h => h) hv hd (kk H locs lr ht hR hS hl)
theorem mo_gJ (X : mo_Cx κ lf ρf cc nL own ret d) {C : String} {T : u_T} {N ci j a index : Nat} (hc : vwCl[ci]? = some (C, T, N)) (hin : ∀ w ∈ u_ws C T N, w ∈ mo_B) (hj : j < N) (hjn : j < mo_fn ci) (hlink : Cond.fieldLink own index (T j).1 (T j).2.1 (T j).2.2.1 ∈ mo_B) (hk : mo_fk ci j = 1) (hd : decode cc pc = .ok (.getfield index, 3)) (hG : G.1 a = some (.inl ci))  (kk : mo_V κ k n (pc + 3) ls (mo_jv (M a j) :: st) G M t) : mo_V κ k n pc ls (.ref a :: st) G M t := by
  obtain ⟨⟨p, l, e, R, s⟩, ⟨m, args, below, meth, c⟩, Q, ρ⟩ := κ
  obtain ⟨hx, hb, hml, hown, hts, hK, hlk, hrt, hb0, hRf, hRl, hlf, hρ⟩ := X
  intro H locs lr ht hR hS hl
  have hv : (mo_fs G M a ci)[j]? = some (mo_jv (M a j)) := by
    rw [mo_fs_at G M a ci hjn]
    unfold mo_fv
    rw [hk]
    rfl
  exact va_get (D := ρ.1) (tys := mo_tys ρ) (cl := vwCl) hx hb hts hin hown hK (mo_one (hR a _ hG).2) 0 rfl hc j hj (hts _ hlink) (fun _ h => h) hv hd (kk H locs lr ht hR hS hl)
theorem mo_gR (X : mo_Cx κ lf ρf cc nL own ret d) {C : String} {T : u_T} {N ci j a index : Nat} (hc : vwCl[ci]? = some (C, T, N)) (hin : ∀ w ∈ u_ws C T N, w ∈ mo_B) (hj : j < N) (hjn : j < mo_fn ci) (hlink : Cond.fieldLink own index (T j).1 (T j).2.1 (T j).2.2.1 ∈ mo_B) (hk : mo_fk ci j = 2) (hd : decode cc pc = .ok (.getfield index, 3)) (hG : G.1 a = some (.inl ci)) {q : Nat} (hp : G.2 a j = some q) (kk : mo_V κ k n (pc + 3) ls (.ref q :: st) G M t) : mo_V κ k n pc ls (.ref a :: st) G M t := by
  obtain ⟨⟨p, l, e, R, s⟩, ⟨m, args, below, meth, c⟩, Q, ρ⟩ := κ
  obtain ⟨hx, hb, hml, hown, hts, hK, hlk, hrt, hb0, hRf, hRl, hlf, hρ⟩ := X
  intro H locs lr ht hR hS hl
  have hv : (mo_fs G M a ci)[j]? = some (.ref q) := by
    rw [mo_fs_at G M a ci hjn]
    unfold mo_fv
    rw [hk]
    show some (va_rf _) = _
    rw [hp]
    rfl
  exact va_get (D := ρ.1) (tys := mo_tys ρ) (cl := vwCl) hx hb hts hin hown hK (mo_one (hR a _ hG).2) 0 rfl hc j hj (hts _ hlink) (fun _ h => h) hv hd (kk H locs lr ht hR hS hl)
theorem mo_pI (X : mo_Cx κ lf ρf cc nL own ret d) {C : String} {T : u_T} {N ci j a index : Nat} (hc : vwCl[ci]? = some (C, T, N)) (hin : ∀ w ∈ u_ws C T N, w ∈ mo_B) (hj : j < N) (hjn : j < mo_fn ci) (hlink : Cond.fieldLink own index (T j).1 (T j).2.1 (T j).2.2.1 ∈ mo_B) (hk : mo_fk ci j = 0) (hd : decode cc pc = .ok (.putfield index, 3)) (hG : G.1 a = some (.inl ci)) {ty0 : Nat → FieldType} (hty0 : ∀ k, k < N → parseFieldDescriptor (T k).2.2.1 = some (ty0 k)) (hnm : ∀ a, a < N → ∀ b, b < N → a ≠ b → (T a).2.1 ≠ (T b).2.1) (hfin : (T j).2.2.2 = false) (htj : parseFieldDescriptor (T j).2.2.1 = some .int) {x : Int} (kk : mo_V κ k n (pc + 3) ls st G (mo_ur M a (va_up (M a) j x)) t) : mo_V κ k n pc ls (mo_iv x :: .ref a :: st) G M t := by
  obtain ⟨⟨p, l, e, R, s⟩, ⟨m, args, below, meth, c⟩, Q, ρ⟩ := κ
  obtain ⟨hx, hb, hml, hown, hts, hK, hlk, hrt, hb0, hRf, hRl, hlf, hρ⟩ := X
  intro H locs lr ht hR hS hl
  have hap := va_apart (own := own) hts hin ty0 hty0 hnm hK hc
  obtain ⟨r, h1, cell, q1, q2, q3, q4⟩ := (hR a _ hG).2
  have hr : r = (C, T, N) := Option.some.inj (h1.symm.trans hc)
  subst hr
  obtain ⟨hS1, hfc, kC, hkC, hkind⟩ := hK.1 ci _ hc
  obtain ⟨cf, kf, fi, f, hi, hsl⟩ := hS1 j hj
  have hlay := hts _ (hin _ (u_in_lay hj))
  unfold u_lay at hlay
  rw [if_neg (by rw [hfin]; decide)] at hlay
  have hst := (u_facts hfc hkC (u_lays hts hin hj) hi).1
  have h6 := u_store hfc hkC hkind hlay hi htj (v := mo_iv x) rfl rfl
  refine W.putK hx hb (f := f) ⟨hown, hts _ hlink, ⟨_, _, _, hi⟩, hst⟩ (by rw [q2]; exact h6) q1 q3 (by rw [hsl]; exact k2_hasslot (q4 j hj)) rfl rfl hd fun H' e1 e2 e3 => ?_
  rw [hsl] at e1 ⊢
  refine kk H' _ lr (by rw [e2]; exact ht) (mo_R_set hR hG ⟨_, hc, ?_⟩ e3) (hS.put e2 e3 (hR a _ hG).1) hl
  refine t_OB.to (V := updV (vp_V (mo_fs G M a ci)) j (mo_iv x)) ⟨_, e1, q2, q3, t_set q4 hap hj _⟩ (fun i _ => ?_)
  rw [vp_updV_set (by rw [mo_fs_len]; exact hjn)]
  rw [mo_fs_set G G M (mo_ur M a (va_up (M a) j x)) a ci j _ ?_ ?_]
  · unfold mo_fv
    rw [hk, mo_ur_s, mo_up_s]
    rfl
  · intro i hij
    unfold mo_fv
    rw [mo_ur_s, mo_up_n hij]
theorem mo_pJ (X : mo_Cx κ lf ρf cc nL own ret d) {C : String} {T : u_T} {N ci j a index : Nat} (hc : vwCl[ci]? = some (C, T, N)) (hin : ∀ w ∈ u_ws C T N, w ∈ mo_B) (hj : j < N) (hjn : j < mo_fn ci) (hlink : Cond.fieldLink own index (T j).1 (T j).2.1 (T j).2.2.1 ∈ mo_B) (hk : mo_fk ci j = 1) (hd : decode cc pc = .ok (.putfield index, 3)) (hG : G.1 a = some (.inl ci)) {ty0 : Nat → FieldType} (hty0 : ∀ k, k < N → parseFieldDescriptor (T k).2.2.1 = some (ty0 k)) (hnm : ∀ a, a < N → ∀ b, b < N → a ≠ b → (T a).2.1 ≠ (T b).2.1) (hfin : (T j).2.2.2 = false) (htj : parseFieldDescriptor (T j).2.2.1 = some .long) {x : Int} (kk : mo_V κ k n (pc + 3) ls st G (mo_ur M a (va_up (M a) j x)) t) : mo_V κ k n pc ls (mo_jv x :: .ref a :: st) G M t := by
  obtain ⟨⟨p, l, e, R, s⟩, ⟨m, args, below, meth, c⟩, Q, ρ⟩ := κ
  obtain ⟨hx, hb, hml, hown, hts, hK, hlk, hrt, hb0, hRf, hRl, hlf, hρ⟩ := X
  intro H locs lr ht hR hS hl
  have hap := va_apart (own := own) hts hin ty0 hty0 hnm hK hc
  obtain ⟨r, h1, cell, q1, q2, q3, q4⟩ := (hR a _ hG).2
  have hr : r = (C, T, N) := Option.some.inj (h1.symm.trans hc)
  subst hr
  obtain ⟨hS1, hfc, kC, hkC, hkind⟩ := hK.1 ci _ hc
  obtain ⟨cf, kf, fi, f, hi, hsl⟩ := hS1 j hj
  have hlay := hts _ (hin _ (u_in_lay hj))
  unfold u_lay at hlay
  rw [if_neg (by rw [hfin]; decide)] at hlay
  have hst := (u_facts hfc hkC (u_lays hts hin hj) hi).1
  have h6 := u_store hfc hkC hkind hlay hi htj (v := mo_jv x) rfl rfl
  refine W.putK hx hb (f := f) ⟨hown, hts _ hlink, ⟨_, _, _, hi⟩, hst⟩ (by rw [q2]; exact h6) q1 q3 (by rw [hsl]; exact k2_hasslot (q4 j hj)) rfl rfl hd fun H' e1 e2 e3 => ?_
  rw [hsl] at e1 ⊢
  refine kk H' _ lr (by rw [e2]; exact ht) (mo_R_set hR hG ⟨_, hc, ?_⟩ e3) (hS.put e2 e3 (hR a _ hG).1) hl
  refine t_OB.to (V := updV (vp_V (mo_fs G M a ci)) j (mo_jv x)) ⟨_, e1, q2, q3, t_set q4 hap hj _⟩ (fun i _ => ?_)
  rw [vp_updV_set (by rw [mo_fs_len]; exact hjn)]
  rw [mo_fs_set G G M (mo_ur M a (va_up (M a) j x)) a ci j _ ?_ ?_]
  · unfold mo_fv
    rw [hk, mo_ur_s, mo_up_s]
    rfl
  · intro i hij
    unfold mo_fv
    rw [mo_ur_s, mo_up_n hij]
theorem mo_iald (X : mo_Cx κ lf ρf cc nL own ret d) {a N : Nat} {i : Int} (hd : decode cc pc = .ok (.iaload, 1)) (hG : G.1 a = some (.inr (0, N))) (hN : (N : Int) ≤ 2147483647) (h0 : 0 ≤ i) (h1 : i < (N : Int)) (kk : mo_V κ k n (pc + 1) ls (mo_iv (M a i.toNat) :: st) G M t) : mo_V κ k n pc ls (mo_iv i :: .ref a :: st) G M t := by
  obtain ⟨⟨p, l, e, R, s⟩, ⟨m, args, below, meth, c⟩, Q, ρ⟩ := κ
  obtain ⟨hx, hb, hml, hown, hts, hK, hlk, hrt, hb0, hRf, hRl, hlf, hρ⟩ := X
  intro H locs lr ht hR hS hl
  refine va_iald hx hb hK (mo_one (hR a _ hG).2) 0 0 rfl rfl (mo_vin (by omega) h0 h1) hd ?_
  rw [mo_cl (by omega) h0]
  exact kk H locs lr ht hR hS hl
theorem mo_lald (X : mo_Cx κ lf ρf cc nL own ret d) {a N : Nat} {i : Int} (hd : decode cc pc = .ok (.laload, 1)) (hG : G.1 a = some (.inr (1, N))) (hN : (N : Int) ≤ 2147483647) (h0 : 0 ≤ i) (h1 : i < (N : Int)) (kk : mo_V κ k n (pc + 1) ls (mo_jv (M a i.toNat) :: st) G M t) : mo_V κ k n pc ls (mo_iv i :: .ref a :: st) G M t := by
  obtain ⟨⟨p, l, e, R, s⟩, ⟨m, args, below, meth, c⟩, Q, ρ⟩ := κ
  obtain ⟨hx, hb, hml, hown, hts, hK, hlk, hrt, hb0, hRf, hRl, hlf, hρ⟩ := X
  intro H locs lr ht hR hS hl
  refine va_lald hx hb hK (mo_one (hR a _ hG).2) 0 1 rfl rfl (mo_vin (by omega) h0 h1) hd ?_
  rw [mo_cl (by omega) h0]
  exact kk H locs lr ht hR hS hl
theorem mo_iast (X : mo_Cx κ lf ρf cc nL own ret d) {a N : Nat} {i x : Int} (hd : decode cc pc = .ok (.iastore, 1)) (hG : G.1 a = some (.inr (0, N))) (hN : (N : Int) ≤ 2147483647) (h0 : 0 ≤ i) (h1 : i < (N : Int)) (kk : mo_V κ k n (pc + 1) ls st G (mo_ur M a (va_up (M a) i.toNat x)) t) : mo_V κ k n pc ls (mo_iv x :: mo_iv i :: .ref a :: st) G M t := by
  obtain ⟨⟨p, l, e, R, s⟩, ⟨m, args, below, meth, c⟩, Q, ρ⟩ := κ
  obtain ⟨hx, hb, hml, hown, hts, hK, hlk, hrt, hb0, hRf, hRl, hlf, hρ⟩ := X
  intro H locs lr ht hR hS hl
  have hin := mo_vin (n := N) (x := i) (by omega) h0 h1
  refine W.iast hx hb (hR a _ hG).2 ((hK.2 0 _ rfl).1 N (fun j => mo_iv (M a j))) (fun q => by cases q) (by show ¬ (_ ∨ (arrV _ _ _).slots.size ≤ _); rw [arrV_size]; exact hin) rfl rfl hd fun H1 e z oq => ?_
  refine kk H1 _ lr (by rw [z]; exact ht) (mo_R_set hR hG ?_ oq) (hS.put z oq (hR a _ hG).1) hl
  show H1[a]? = some (vp_cell _ _)
  rw [e, vp_cell_i]
  rw [vp_cell_i, arrV_store, mo_cl (by omega) h0]
  congr 2
  funext q
  by_cases hq : q = i.toNat
  · subst hq
    simp [updV, mo_ur, va_up, mo_iv]
  · simp [updV, mo_ur, va_up, hq]
theorem mo_last (X : mo_Cx κ lf ρf cc nL own ret d) {a N : Nat} {i x : Int} (hd : decode cc pc = .ok (.lastore, 1)) (hG : G.1 a = some (.inr (1, N))) (hN : (N : Int) ≤ 2147483647) (h0 : 0 ≤ i) (h1 : i < (N : Int)) (kk : mo_V κ k n (pc + 1) ls st G (mo_ur M a (va_up (M a) i.toNat x)) t) : mo_V κ k n pc ls (mo_jv x :: mo_iv i :: .ref a :: st) G M t := by
  obtain ⟨⟨p, l, e, R, s⟩, ⟨m, args, below, meth, c⟩, Q, ρ⟩ := κ
  obtain ⟨hx, hb, hml, hown, hts, hK, hlk, hrt, hb0, hRf, hRl, hlf, hρ⟩ := X
  intro H locs lr ht hR hS hl
  have hin := mo_vin (n := N) (x := i) (by omega) h0 h1
  refine W.last hx hb (hR a _ hG).2 ((hK.2 1 _ rfl).1 N (fun j => mo_jv (M a j))) (fun q => by cases q) (by show ¬ (_ ∨ (arrV _ _ _).slots.size ≤ _); rw [arrV_size]; exact hin) rfl rfl hd fun H1 e z oq => ?_
  refine kk H1 _ lr (by rw [z]; exact ht) (mo_R_set hR hG ?_ oq) (hS.put z oq (hR a _ hG).1) hl
  show H1[a]? = some (vp_cell _ _)
  rw [e, vp_cell_l]
  rw [vp_cell_l, arrV_store, mo_cl (by omega) h0]
  congr 2
  funext q
  by_cases hq : q = i.toNat
  · subst hq
    simp [updV, mo_ur, va_up, mo_jv]
  · simp [updV, mo_ur, va_up, hq]
theorem mo_alenI (X : mo_Cx κ lf ρf cc nL own ret d) {a N : Nat} (hd : decode cc pc = .ok (.arraylength, 1)) (hG : G.1 a = some (.inr (0, N))) (kk : mo_V κ k n (pc + 1) ls (mo_iv (N : Int) :: st) G M t) : mo_V κ k n pc ls (.ref a :: st) G M t := by
  obtain ⟨⟨p, l, e, R, s⟩, ⟨m, args, below, meth, c⟩, Q, ρ⟩ := κ
  obtain ⟨hx, hb, hml, hown, hts, hK, hlk, hrt, hb0, hRf, hRl, hlf, hρ⟩ := X
  intro H locs lr ht hR hS hl
  exact va_alen hx hb hK (mo_one (hR a _ hG).2) 0 0 rfl rfl rfl hd (kk H locs lr ht hR hS hl)
theorem mo_alenQ (X : mo_Cx κ lf ρf cc nL own ret d) {a N : Nat} (hd : decode cc pc = .ok (.arraylength, 1)) (hG : G.1 a = some (.inr (2, N))) (kk : mo_V κ k n (pc + 1) ls (mo_iv (N : Int) :: st) G M t) : mo_V κ k n pc ls (.ref a :: st) G M t := by
  obtain ⟨⟨p, l, e, R, s⟩, ⟨m, args, below, meth, c⟩, Q, ρ⟩ := κ
  obtain ⟨hx, hb, hml, hown, hts, hK, hlk, hrt, hb0, hRf, hRl, hlf, hρ⟩ := X
  intro H locs lr ht hR hS hl
  exact va_alen hx hb hK (mo_one (hR a _ hG).2) 0 2 rfl rfl rfl hd (kk H locs lr ht hR hS hl)
theorem mo_aald (X : mo_Cx κ lf ρf cc nL own ret d) {a N q : Nat} {i : Int} (hd : decode cc pc = .ok (.aaload, 1)) (hG : G.1 a = some (.inr (2, N))) (hN : (N : Int) ≤ 2147483647) (h0 : 0 ≤ i) (h1 : i < (N : Int)) (hp : G.2 a i.toNat = some q) (kk : mo_V κ k n (pc + 1) ls (.ref q :: st) G M t) : mo_V κ k n pc ls (mo_iv i :: .ref a :: st) G M t := by
  obtain ⟨⟨p, l, e, R, s⟩, ⟨m, args, below, meth, c⟩, Q, ρ⟩ := κ
  obtain ⟨hx, hb, hml, hown, hts, hK, hlk, hrt, hb0, hRf, hRl, hlf, hρ⟩ := X
  intro H locs lr ht hR hS hl
  refine va_aldq (C := RX2) hx hb hK (mo_one (hR a _ hG).2) 0 2 rfl rfl (mo_vin (by omega) h0 h1) hd ?_
  rw [mo_cl (by omega) h0, hp]
  exact kk H locs lr ht hR hS hl
def mo_gp (G : mo_G) (a : Nat) (i : Nat) (v : Option Nat) : mo_G := (G.1, fun b => if b = a then va_up (G.2 a) i v else G.2 b)
theorem mo_el_gp (ρ : mo_E) (G : mo_G) (M : mo_M) (a i : Nat) (v : Option Nat) {b : Nat} (h : b ≠ a) (e : mo_Kd) : mo_el ρ (mo_gp G a i v) M b e = mo_el ρ G M b e := by
  have h2 : (mo_gp G a i v).2 b = G.2 b := by simp [mo_gp, h]
  have hf : mo_fs (mo_gp G a i v) M b = mo_fs G M b := by
    funext ci
    unfold mo_fs
    congr 1
    funext k
    unfold mo_fv
    rw [h2]
  rcases e with ci | ⟨t, n⟩
  · show Sum.inr _ = Sum.inr _
    rw [hf]
  · match t with
    | 0 => rfl
    | 1 => rfl
    | t + 2 => show Sum.inl _ = Sum.inl _; rw [h2]
theorem mo_R_gp {ρ : mo_E} {G : mo_G} {M : mo_M} {H H1 : Heap} {a i : Nat} {v : Option Nat} {e : mo_Kd} (hR : mo_R ρ G M H) (he : G.1 a = some e) (h1 : va_at ρ.1 vwCl (a, mo_el ρ (mo_gp G a i v) M a e) H1) (h2 : ∀ q, q ≠ a → H1[q]? = H[q]?) : mo_R ρ (mo_gp G a i v) M H1 := by
  intro b e' hb
  have hb : G.1 b = some e' := hb
  by_cases hba : b = a
  · subst hba
    cases he.symm.trans hb
    exact ⟨(hR b e hb).1, h1⟩
  · refine ⟨(hR b e' hb).1, ?_⟩
    rw [mo_el_gp ρ G M a i v hba e']
    exact (hR b e' hb).2.kept (h2 b hba)
theorem mo_aast (X : mo_Cx κ lf ρf cc nL own ret d) {a N v : Nat} {i : Int} (hd : decode cc pc = .ok (.aastore, 1)) (hG : G.1 a = some (.inr (2, N))) (hv : G.1 v = some (.inl 2)) (hN : (N : Int) ≤ 2147483647) (h0 : 0 ≤ i) (h1 : i < (N : Int)) (kk : mo_V κ k n (pc + 1) ls st (mo_gp G a i.toNat (some v)) M t) : mo_V κ k n pc ls (.ref v :: mo_iv i :: .ref a :: st) G M t := by
  obtain ⟨⟨p, l, e, R, s⟩, ⟨m, args, below, meth, c⟩, Q, ρ⟩ := κ
  obtain ⟨hx, hb, hml, hown, hts, hK, hlk, hrt, hb0, hRf, hRl, hlf, hρ⟩ := X
  intro H locs lr ht hR hS hl
  have hin := mo_vin (n := N) (x := i) (by omega) h0 h1
  have hlt : (Int32.ofInt i).toNatClampNeg < N := Nat.not_le.mp fun q => hin (Or.inr q)
  have h00 : ¬ Int32.ofInt i < 0 := fun q => hin (Or.inl q)
  obtain ⟨r', hr', cellV, g1, g2, g3, -⟩ := (hR v _ hv).2
  have hcls := (hK.1 2 (RX2, TX2, 15) rfl).2
  obtain ⟨kA, comp, k1, k2, k3, -⟩ := (hK.2 2 _ rfl).2
  have hcomp : comp = ρ.1.1 2 := Option.some.inj (k3.symm.trans hcls.1)
  subst hcomp
  obtain ⟨kC, hkC, -⟩ := hcls.2
  refine W.aast hx hb (hR a _ hG).2 (fun q h => by cases h) (fun h => by cases h) k1 k2 rfl hkC ⟨h00, by show _ < (arrV _ _ _).slots.size; rw [arrV_size]; exact hlt⟩ g1 (fun q h => by rw [g3] at h; cases h) (by rw [g2]; exact hkC) (by rw [g2]; exact va_assign hcls) rfl rfl hd fun H1 e z oq => ?_
  refine kk H1 _ lr (by rw [z]; exact ht) (mo_R_gp hR hG ?_ oq) (hS.put z oq (hR a _ hG).1) hl
  show H1[a]? = some (vp_cell _ _)
  rw [e, vp_cell_q]
  rw [vp_cell_q, arrV_store, mo_cl (by omega) h0]
  congr 2
  funext q
  by_cases hq : q = i.toNat
  · subst hq
    simp [updV, mo_gp, va_up, va_rf]
  · simp [updV, mo_gp, va_up, hq]
theorem mo_callVr (X : mo_Cx κ lf ρf cc nL own ret d) {y : MethodName} {bytes : ByteArray} {maxL d' kc ks b ci N index : Nat} {ret' : Option FieldType} {As rest : List Value} {C : String} {T : u_T} {post : Option Value → mo_G → mo_M → Nat → Prop} (hL : mo_LkV own index C y bytes maxL ret') (hy : mo_dV y C As.length) (hcl : vwCl[ci]? = some (C, T, N)) (hd : decode cc pc = .ok (.invokevirtual index, 3)) (hC : mo_Ct lf ρf y bytes maxL ret' d' kc ks (.ref b :: As) G M t post) (hG : G.1 b = some (.inl ci)) (hst : st = As.reverse ++ .ref b :: rest) (hdd : d' + 1 ≤ d) (hmx : maxL ≤ 11) (hsum : (rest.map fun v => v.category).sum ≤ 8) (hroom : mo_Rm κ (k + kc) (n + ks)) (kk : ∀ v G' M' t', post v G' M' t' → mo_V κ (k + kc) (n + ks) (pc + 3) ls (v.toList ++ rest) G' M' t') : mo_V κ k n pc ls st G M t := by
  obtain ⟨⟨p, l, e, R, s⟩, ⟨m, args, below, meth, c⟩, Q, ρ⟩ := κ
  obtain ⟨hx, hb, hml, hown, hts, hK, hlk, hrt, hb0, hRf, hRl, hlf, hρ⟩ := X
  subst hlf
  subst hρ
  intro H locs lr ht hR hS hl
  have hPc := mo_one (hR b _ hG).2
  refine mo_back (va_runV (As := As) (rest := rest) ⟨hx, hb, hml, hown, hts⟩ hC (cwV As.length hts (mo_gwV hL) rfl rfl rfl hy ⟨Nat.le_trans hdd hRf, by show 8 + (maxL + 11) + 30 * d' ≤ R.locals; omega⟩) ⟨mo_fb _ _ _ _ _, va_recv hK hPc (ci := ci) (q0 := 0) hcl rfl, fun U hU hW => ⟨rfl, by rw [hU]; exact ht, by rw [hU]; exact hR, va_K.moved hW.alike hK, by rw [← ht]; exact Nat.le_trans hb0 hS.1⟩⟩ rfl rfl (hl.1.trans hml) hst (lv_room hsum) hd hroom) hS ?_
  intro v G' M' t' hp H' locs' hz hR' hS'
  exact kk v G' M' t' hp H' locs' lr hz hR' hS' hl
theorem mo_callSr (X : mo_Cx κ lf ρf cc nL own ret d) {y : MethodName} {bytes : ByteArray} {maxL d' kc ks index : Nat} {ret' : Option FieldType} {As rest : List Value} {post : Option Value → mo_G → mo_M → Nat → Prop} (hL : mo_LkS own index y bytes maxL ret') (hy : y.cls ≠ "java/lang/invoke/MethodHandle" ∧ y.cls ≠ "java/lang/invoke/VarHandle" ∧ (parseMethodDescriptor y.desc).map (fun d => d.parameters.length) = some As.length) (hd : decode cc pc = .ok (.invokestatic index, 3)) (hC : mo_Ct lf ρf y bytes maxL ret' d' kc ks As G M t post) (hst : st = As.reverse ++ rest) (hdd : d' + 1 ≤ d) (hmx : maxL ≤ 11) (hsum : (rest.map fun v => v.category).sum ≤ 8) (hroom : mo_Rm κ (k + kc) (n + ks)) (kk : ∀ v G' M' t', post v G' M' t' → mo_V κ (k + kc) (n + ks) (pc + 3) ls (v.toList ++ rest) G' M' t') : mo_V κ k n pc ls st G M t := by
  obtain ⟨⟨p, l, e, R, s⟩, ⟨m, args, below, meth, c⟩, Q, ρ⟩ := κ
  obtain ⟨hx, hb, hml, hown, hts, hK, hlk, hrt, hb0, hRf, hRl, hlf, hρ⟩ := X
  subst hlf
  subst hρ
  intro H locs lr ht hR hS hl
  refine mo_back (va_runS (As := As) (rest := rest) ⟨hx, hb, hml, hown, hts⟩ hC (va_cwS As.length hts (mo_gwS hL) rfl rfl rfl hy ⟨Nat.le_trans hdd hRf, by show 8 + (maxL + 11) + 30 * d' ≤ R.locals; omega⟩) ⟨mo_fb _ _ _ _ _, fun U hU hW => ⟨rfl, by rw [hU]; exact ht, by rw [hU]; exact hR, va_K.moved hW.alike hK, by rw [← ht]; exact Nat.le_trans hb0 hS.1⟩⟩ rfl rfl (hl.1.trans hml) hst (lv_room hsum) hd hroom) hS ?_
  intro v G' M' t' hp H' locs' hz hR' hS'
  exact kk v G' M' t' hp H' locs' lr hz hR' hS' hl
theorem mo_callIr (X : mo_Cx κ lf ρf cc nL own ret d) {y : MethodName} {bytes : ByteArray} {maxL d' kc ks b index : Nat} {As rest : List Value} {post : Option Value → mo_G → mo_M → Nat → Prop} (hL : mo_LkI own index y bytes maxL) (hy1 : y.name = "<init>") (hy : y.cls ≠ "java/lang/invoke/MethodHandle" ∧ y.cls ≠ "java/lang/invoke/VarHandle" ∧ (parseMethodDescriptor y.desc).map (fun d => d.parameters.length) = some As.length) (hd : decode cc pc = .ok (.invokespecial index, 3)) (hC : mo_Ct lf ρf y bytes maxL none d' kc ks (.ref b :: As) G M t post) (hst : st = As.reverse ++ .ref b :: rest) (hdd : d' + 1 ≤ d) (hmx : maxL ≤ 11) (hsum : (rest.map fun v => v.category).sum ≤ 8) (hroom : mo_Rm κ (k + kc) (n + ks)) (kk : ∀ v G' M' t', post v G' M' t' → mo_V κ (k + kc) (n + ks) (pc + 3) ls (v.toList ++ rest) G' M' t') : mo_V κ k n pc ls st G M t := by
  obtain ⟨⟨p, l, e, R, s⟩, ⟨m, args, below, meth, c⟩, Q, ρ⟩ := κ
  obtain ⟨hx, hb, hml, hown, hts, hK, hlk, hrt, hb0, hRf, hRl, hlf, hρ⟩ := X
  subst hlf
  subst hρ
  intro H locs lr ht hR hS hl
  refine mo_back (va_runI (As := As) (rest := rest) ⟨hx, hb, hml, hown, hts⟩ hC (cwI As.length hts (mo_gw hL.2.2.2) rfl rfl rfl (hts _ hL.2.2.1) (hts _ hL.1) (hts _ hL.2.1) hy1 hy ⟨Nat.le_trans hdd hRf, by show 8 + (maxL + 11) + 30 * d' ≤ R.locals; omega⟩) ⟨mo_fb _ _ _ _ _, fun U hU hW => ⟨rfl, by rw [hU]; exact ht, by rw [hU]; exact hR, va_K.moved hW.alike hK, by rw [← ht]; exact Nat.le_trans hb0 hS.1⟩⟩ rfl rfl (hl.1.trans hml) hst (lv_room hsum) hd hroom) hS ?_
  intro v G' M' t' hp H' locs' hz hR' hS'
  exact kk v G' M' t' hp H' locs' lr hz hR' hS' hl
def mo_pi (G : mo_G) (t : Nat) (P : Int → mo_M → Prop) : Option Value → mo_G → mo_M → Nat → Prop := fun v G' M' t' => G' = G ∧ t' = t ∧ ∃ x, v = some (mo_iv x) ∧ P x M'
def mo_pj (G : mo_G) (t : Nat) (P : Int → mo_M → Prop) : Option Value → mo_G → mo_M → Nat → Prop := fun v G' M' t' => G' = G ∧ t' = t ∧ ∃ x, v = some (mo_jv x) ∧ P x M'
def mo_pv (G : mo_G) (t : Nat) (P : mo_M → Prop) : Option Value → mo_G → mo_M → Nat → Prop := fun v G' M' t' => G' = G ∧ t' = t ∧ v = none ∧ P M'
theorem mo_rm0 (κ : mo_T) : mo_Rm κ (0 + 0) (0 + 0) := ⟨Nat.zero_le _, Nat.zero_le _⟩
theorem mo_cVI (X : mo_Cx κ lf ρf cc nL own ret d) {y : MethodName} {bytes : ByteArray} {maxL d' b ci N index : Nat} {ret' : Option FieldType} {As rest : List Value} {C : String} {T : u_T} {P : Int → mo_M → Prop} (hL : mo_LkV own index C y bytes maxL ret') (hy : mo_dV y C As.length) (hcl : vwCl[ci]? = some (C, T, N)) (hd : decode cc pc = .ok (.invokevirtual index, 3)) (hC : mo_Ct lf ρf y bytes maxL ret' d' 0 0 (.ref b :: As) G M t (mo_pi G t P)) (hG : G.1 b = some (.inl ci)) (hst : st = As.reverse ++ .ref b :: rest) (hdd : d' + 1 ≤ d) (hmx : maxL ≤ 11) (hsum : (rest.map fun v => v.category).sum ≤ 8) (kk : ∀ (x : Int) (M' : mo_M), P x M' → mo_V κ 0 0 (pc + 3) ls (mo_iv x :: rest) G M' t) : mo_V κ 0 0 pc ls st G M t := by
  refine mo_callVr X hL hy hcl hd hC hG hst hdd hmx hsum (mo_rm0 κ) ?_
  intro v G' M' t' hp
  obtain ⟨rfl, rfl, x, rfl, hP⟩ := hp
  exact kk x M' hP
theorem mo_cSI (X : mo_Cx κ lf ρf cc nL own ret d) {y : MethodName} {bytes : ByteArray} {maxL d' index : Nat} {ret' : Option FieldType} {As rest : List Value} {P : Int → mo_M → Prop} (hL : mo_LkS own index y bytes maxL ret') (hy : y.cls ≠ "java/lang/invoke/MethodHandle" ∧ y.cls ≠ "java/lang/invoke/VarHandle" ∧ (parseMethodDescriptor y.desc).map (fun d => d.parameters.length) = some As.length) (hd : decode cc pc = .ok (.invokestatic index, 3)) (hC : mo_Ct lf ρf y bytes maxL ret' d' 0 0 As G M t (mo_pi G t P)) (hst : st = As.reverse ++ rest) (hdd : d' + 1 ≤ d) (hmx : maxL ≤ 11) (hsum : (rest.map fun v => v.category).sum ≤ 8) (kk : ∀ (x : Int) (M' : mo_M), P x M' → mo_V κ 0 0 (pc + 3) ls (mo_iv x :: rest) G M' t) : mo_V κ 0 0 pc ls st G M t := by
  refine mo_callSr X hL hy hd hC hst hdd hmx hsum (mo_rm0 κ) ?_
  intro v G' M' t' hp
  obtain ⟨rfl, rfl, x, rfl, hP⟩ := hp
  exact kk x M' hP
theorem mo_cVJ (X : mo_Cx κ lf ρf cc nL own ret d) {y : MethodName} {bytes : ByteArray} {maxL d' b ci N index : Nat} {ret' : Option FieldType} {As rest : List Value} {C : String} {T : u_T} {P : Int → mo_M → Prop} (hL : mo_LkV own index C y bytes maxL ret') (hy : mo_dV y C As.length) (hcl : vwCl[ci]? = some (C, T, N)) (hd : decode cc pc = .ok (.invokevirtual index, 3)) (hC : mo_Ct lf ρf y bytes maxL ret' d' 0 0 (.ref b :: As) G M t (mo_pj G t P)) (hG : G.1 b = some (.inl ci)) (hst : st = As.reverse ++ .ref b :: rest) (hdd : d' + 1 ≤ d) (hmx : maxL ≤ 11) (hsum : (rest.map fun v => v.category).sum ≤ 8) (kk : ∀ (x : Int) (M' : mo_M), P x M' → mo_V κ 0 0 (pc + 3) ls (mo_jv x :: rest) G M' t) : mo_V κ 0 0 pc ls st G M t := by
  refine mo_callVr X hL hy hcl hd hC hG hst hdd hmx hsum (mo_rm0 κ) ?_
  intro v G' M' t' hp
  obtain ⟨rfl, rfl, x, rfl, hP⟩ := hp
  exact kk x M' hP
theorem mo_cSJ (X : mo_Cx κ lf ρf cc nL own ret d) {y : MethodName} {bytes : ByteArray} {maxL d' index : Nat} {ret' : Option FieldType} {As rest : List Value} {P : Int → mo_M → Prop} (hL : mo_LkS own index y bytes maxL ret') (hy : y.cls ≠ "java/lang/invoke/MethodHandle" ∧ y.cls ≠ "java/lang/invoke/VarHandle" ∧ (parseMethodDescriptor y.desc).map (fun d => d.parameters.length) = some As.length) (hd : decode cc pc = .ok (.invokestatic index, 3)) (hC : mo_Ct lf ρf y bytes maxL ret' d' 0 0 As G M t (mo_pj G t P)) (hst : st = As.reverse ++ rest) (hdd : d' + 1 ≤ d) (hmx : maxL ≤ 11) (hsum : (rest.map fun v => v.category).sum ≤ 8) (kk : ∀ (x : Int) (M' : mo_M), P x M' → mo_V κ 0 0 (pc + 3) ls (mo_jv x :: rest) G M' t) : mo_V κ 0 0 pc ls st G M t := by
  refine mo_callSr X hL hy hd hC hst hdd hmx hsum (mo_rm0 κ) ?_
  intro v G' M' t' hp
  obtain ⟨rfl, rfl, x, rfl, hP⟩ := hp
  exact kk x M' hP
theorem mo_cVV (X : mo_Cx κ lf ρf cc nL own ret d) {y : MethodName} {bytes : ByteArray} {maxL d' b ci N index : Nat} {ret' : Option FieldType} {As rest : List Value} {C : String} {T : u_T} {P : mo_M → Prop} (hL : mo_LkV own index C y bytes maxL ret') (hy : mo_dV y C As.length) (hcl : vwCl[ci]? = some (C, T, N)) (hd : decode cc pc = .ok (.invokevirtual index, 3)) (hC : mo_Ct lf ρf y bytes maxL ret' d' 0 0 (.ref b :: As) G M t (mo_pv G t P)) (hG : G.1 b = some (.inl ci)) (hst : st = As.reverse ++ .ref b :: rest) (hdd : d' + 1 ≤ d) (hmx : maxL ≤ 11) (hsum : (rest.map fun v => v.category).sum ≤ 8) (kk : ∀ (M' : mo_M), P M' → mo_V κ 0 0 (pc + 3) ls rest G M' t) : mo_V κ 0 0 pc ls st G M t := by
  refine mo_callVr X hL hy hcl hd hC hG hst hdd hmx hsum (mo_rm0 κ) ?_
  intro v G' M' t' hp
  obtain ⟨rfl, rfl, rfl, hP⟩ := hp
  exact kk M' hP
theorem mo_cSV (X : mo_Cx κ lf ρf cc nL own ret d) {y : MethodName} {bytes : ByteArray} {maxL d' index : Nat} {ret' : Option FieldType} {As rest : List Value} {P : mo_M → Prop} (hL : mo_LkS own index y bytes maxL ret') (hy : y.cls ≠ "java/lang/invoke/MethodHandle" ∧ y.cls ≠ "java/lang/invoke/VarHandle" ∧ (parseMethodDescriptor y.desc).map (fun d => d.parameters.length) = some As.length) (hd : decode cc pc = .ok (.invokestatic index, 3)) (hC : mo_Ct lf ρf y bytes maxL ret' d' 0 0 As G M t (mo_pv G t P)) (hst : st = As.reverse ++ rest) (hdd : d' + 1 ≤ d) (hmx : maxL ≤ 11) (hsum : (rest.map fun v => v.category).sum ≤ 8) (kk : ∀ (M' : mo_M), P M' → mo_V κ 0 0 (pc + 3) ls rest G M' t) : mo_V κ 0 0 pc ls st G M t := by
  refine mo_callSr X hL hy hd hC hst hdd hmx hsum (mo_rm0 κ) ?_
  intro v G' M' t' hp
  obtain ⟨rfl, rfl, rfl, hP⟩ := hp
  exact kk M' hP
theorem mo_iret (X : mo_Cx κ lf ρf cc nL own ret d) {post : Option Value → mo_G → mo_M → Nat → Prop} (Y : mo_Rt κ post k n) {x : Int} (hr : ret = some .int) (hd : decode cc pc = .ok (.ireturn, 1)) (hp : post (some (mo_iv x)) G M t) : mo_V κ k n pc ls [mo_iv x] G M t := by
  obtain ⟨⟨p, l, e, R, s⟩, ⟨m, args, below, meth, c⟩, Q, ρ⟩ := κ
  obtain ⟨hx, hb, hml, hown, hts, hK, hlk, hrt, hb0, hRf, hRl, hlf, hρ⟩ := X
  have hY : Q = MQ below (mo_Qc ρ post) args s k n (mo_fr ρ) := Y
  subst hY
  intro H locs lr ht hR hS hl
  exact W.iret hx hb (hrt.trans hr) (fun u hu hW => ⟨⟨_, G, M, rfl, by rw [hu, ht]; exact hp, by rw [hu]; exact hR⟩, hS.F hu⟩) hS.2.2 hd hlk
theorem mo_zret (X : mo_Cx κ lf ρf cc nL own ret d) {post : Option Value → mo_G → mo_M → Nat → Prop} (Y : mo_Rt κ post k n) {x : Int} (hr : ret = some .boolean) (h01 : x = 0 ∨ x = 1) (hd : decode cc pc = .ok (.ireturn, 1)) (hp : post (some (mo_iv x)) G M t) : mo_V κ k n pc ls [mo_iv x] G M t := by
  obtain ⟨⟨p, l, e, R, s⟩, ⟨m, args, below, meth, c⟩, Q, ρ⟩ := κ
  obtain ⟨hx, hb, hml, hown, hts, hK, hlk, hrt, hb0, hRf, hRl, hlf, hρ⟩ := X
  have hY : Q = MQ below (mo_Qc ρ post) args s k n (mo_fr ρ) := Y
  subst hY
  intro H locs lr ht hR hS hl
  exact W.zret hx hb (hrt.trans hr) (by rcases h01 with rfl | rfl <;> rfl) (fun u hu hW => ⟨⟨_, G, M, rfl, by rw [hu, ht]; exact hp, by rw [hu]; exact hR⟩, hS.F hu⟩) hS.2.2 hd hlk
theorem mo_vret (X : mo_Cx κ lf ρf cc nL own ret d) {post : Option Value → mo_G → mo_M → Nat → Prop} (Y : mo_Rt κ post k n) (hr : ret = none) (hd : decode cc pc = .ok (.return_, 1)) (hp : post none G M t) : mo_V κ k n pc ls [] G M t := by
  obtain ⟨⟨p, l, e, R, s⟩, ⟨m, args, below, meth, c⟩, Q, ρ⟩ := κ
  obtain ⟨hx, hb, hml, hown, hts, hK, hlk, hrt, hb0, hRf, hRl, hlf, hρ⟩ := X
  have hY : Q = MQ below (mo_Qc ρ post) args s k n (mo_fr ρ) := Y
  subst hY
  intro H locs lr ht hR hS hl
  exact W.vret hx hb (hrt.trans hr) (fun u hu hW => ⟨⟨_, G, M, rfl, by rw [hu, ht]; exact hp, by rw [hu]; exact hR⟩, hS.F hu⟩) hS.2.2 hd hlk
theorem mo_lret (X : mo_Cx κ lf ρf cc nL own ret d) {post : Option Value → mo_G → mo_M → Nat → Prop} (Y : mo_Rt κ post k n) {x : Int} (hr : ret = some .long) (hd : decode cc pc = .ok (.lreturn, 1)) (hp : post (some (mo_jv x)) G M t) : mo_V κ k n pc ls [mo_jv x] G M t := by
  obtain ⟨⟨p, l, e, R, s⟩, ⟨m, args, below, meth, c⟩, Q, ρ⟩ := κ
  obtain ⟨hx, hb, hml, hown, hts, hK, hlk, hrt, hb0, hRf, hRl, hlf, hρ⟩ := X
  have hY : Q = MQ below (mo_Qc ρ post) args s k n (mo_fr ρ) := Y
  subst hY
  intro H locs lr ht hR hS hl
  exact W.lret hx hb (hrt.trans hr) (fun u hu hW => ⟨⟨_, G, M, rfl, by rw [hu, ht]; exact hp, by rw [hu]; exact hR⟩, hS.F hu⟩) hS.2.2 hd hlk
theorem mo_max (X : mo_Cx κ lf ρf cc nL own ret d) {index : Nat} {x y : Int} (hd : decode cc pc = .ok (.invokestatic index, 3)) (hw : Cond.methodLink own index Lib.Math.max.name ∈ mo_B) (h1 : mo_In x) (h2 : mo_In y) (hdd : 1 ≤ d) (hsum : (st.map fun v => v.category).sum ≤ 8) (hk0 : k = 0 ∧ n = 0) (kk : mo_V κ k n (pc + 3) ls (mo_iv (if x < y then y else x) :: st) G M t) : mo_V κ k n pc ls (mo_iv y :: mo_iv x :: st) G M t := by
  obtain ⟨⟨p, l, e, R, s⟩, ⟨m, args, below, meth, c⟩, Q, ρ⟩ := κ
  obtain ⟨hx, hb, hml, hown, hts, hK, hlk, hrt, hb0, hRf, hRl, hlf, hρ⟩ := X
  intro H locs lr ht hR hS hl
  obtain ⟨rfl, rfl⟩ := hk0
  refine va_mmax hx hb (by rw [hl.1]) hown (hts _ hw) (hts _ (by decide +kernel)) (hts _ (by decide +kernel)) (hts _ (by decide +kernel)) (Nat.le_trans hdd hRf) (by omega) (Nat.zero_le _) (Nat.zero_le _) hd ?_
  have h := kk H locs lr ht hR hS hl
  by_cases c1 : x < y
  · rw [if_pos c1] at h
    rw [if_pos ((mo_lt h1 h2).mpr c1)]
    exact h
  · rw [if_neg c1] at h
    rw [if_neg (fun q => c1 ((mo_lt h1 h2).mp q))]
    exact h
theorem mo_min (X : mo_Cx κ lf ρf cc nL own ret d) {index : Nat} {x y : Int} (hd : decode cc pc = .ok (.invokestatic index, 3)) (hw : Cond.methodLink own index Lib.Math.min.name ∈ mo_B) (h1 : mo_In x) (h2 : mo_In y) (hdd : 1 ≤ d) (hsum : (st.map fun v => v.category).sum ≤ 8) (hk0 : k = 0 ∧ n = 0) (kk : mo_V κ k n (pc + 3) ls (mo_iv (if y < x then y else x) :: st) G M t) : mo_V κ k n pc ls (mo_iv y :: mo_iv x :: st) G M t := by
  obtain ⟨⟨p, l, e, R, s⟩, ⟨m, args, below, meth, c⟩, Q, ρ⟩ := κ
  obtain ⟨hx, hb, hml, hown, hts, hK, hlk, hrt, hb0, hRf, hRl, hlf, hρ⟩ := X
  intro H locs lr ht hR hS hl
  obtain ⟨rfl, rfl⟩ := hk0
  refine va_mmin hx hb (by rw [hl.1]) hown (hts _ hw) (hts _ (by decide +kernel)) (hts _ (by decide +kernel)) (hts _ (by decide +kernel)) (Nat.le_trans hdd hRf) (by omega) (Nat.zero_le _) (Nat.zero_le _) hd ?_
  have h := kk H locs lr ht hR hS hl
  by_cases c1 : y < x
  · rw [if_pos c1] at h
    rw [if_pos ((mo_lt h2 h1).mpr c1)]
    exact h
  · rw [if_neg c1] at h
    rw [if_neg (fun q => c1 ((mo_lt h2 h1).mp q))]
    exact h
theorem mo_swIn (X : mo_Cx κ lf ρf cc nL own ret d) {dflt lo hi : Int} {offs : Array Int} {len : Nat} {x off : Int} {tgt : Nat} (hd : decode cc pc = .ok (.tableswitch dflt lo hi offs, len)) (hx0 : mo_In x) (h1 : lo ≤ x) (h2 : x ≤ hi) (ho : offs[(x - lo).toNat]? = some off) (htg : (pc : Int) + off = (tgt : Int)) (kk : mo_V κ k n tgt ls st G M t) : mo_V κ k n pc ls (mo_iv x :: st) G M t := by
  obtain ⟨⟨p, l, e, R, s⟩, ⟨m, args, below, meth, c⟩, Q, ρ⟩ := κ
  obtain ⟨hx, hb, hml, hown, hts, hK, hlk, hrt, hb0, hRf, hRl, hlf, hρ⟩ := X
  intro H locs lr ht hR hS hl
  exact lv_tableIn hx hb hd (by rw [mo_ti hx0]; omega) (by rw [mo_ti hx0]; omega) (by rw [mo_ti hx0]; exact ho) htg (kk H locs lr ht hR hS hl)
theorem mo_swOut (X : mo_Cx κ lf ρf cc nL own ret d) {dflt lo hi : Int} {offs : Array Int} {len : Nat} {x : Int} {tgt : Nat} (hd : decode cc pc = .ok (.tableswitch dflt lo hi offs, len)) (hx0 : mo_In x) (h1 : x < lo ∨ hi < x) (htg : (pc : Int) + dflt = (tgt : Int)) (kk : mo_V κ k n tgt ls st G M t) : mo_V κ k n pc ls (mo_iv x :: st) G M t := by
  obtain ⟨⟨p, l, e, R, s⟩, ⟨m, args, below, meth, c⟩, Q, ρ⟩ := κ
  obtain ⟨hx, hb, hml, hown, hts, hK, hlk, hrt, hb0, hRf, hRl, hlf, hρ⟩ := X
  intro H locs lr ht hR hS hl
  exact lv_tableOut hx hb hd (by rw [mo_ti hx0]; exact h1) htg (kk H locs lr ht hR hS hl)
theorem mo_lsw (X : mo_Cx κ lf ρf cc nL own ret d) {dflt : Int} {ps : Array (Int × Int)} {len : Nat} {x off : Int} {tgt : Nat} (hd : decode cc pc = .ok (.lookupswitch dflt ps, len)) (hx0 : mo_In x) (hs : (ps.toList.zip (ps.toList.drop 1)).all (fun (a, next) => a.1 < next.1) = true) (ho : Op.lookupswitch.offset ps.toList dflt x = off) (htg : (pc : Int) + off = (tgt : Int)) (kk : mo_V κ k n tgt ls st G M t) : mo_V κ k n pc ls (mo_iv x :: st) G M t := by
  obtain ⟨⟨p, l, e, R, s⟩, ⟨m, args, below, meth, c⟩, Q, ρ⟩ := κ
  obtain ⟨hx, hb, hml, hown, hts, hK, hlk, hrt, hb0, hRf, hRl, hlf, hρ⟩ := X
  intro H locs lr ht hR hS hl
  exact lv_lookup hx hb hd hs (by rw [mo_ti hx0]; exact ho) htg (kk H locs lr ht hR hS hl)
theorem mo_copy (X : mo_Cx κ lf ρf cc nL own ret d) {index a a0 n0 n1 : Nat} {sp dp z : Int} (hd : decode cc pc = .ok (.invokestatic index, 3)) (hw : Cond.methodLink own index arraycopyName ∈ mo_B) (hG0 : G.1 a0 = some (.inr (0, n0))) (hG1 : G.1 a = some (.inr (0, n1))) (hn0 : (n0 : Int) ≤ 2147483647) (hn1 : (n1 : Int) ≤ 2147483647) (h1 : 0 ≤ sp) (h2 : 0 ≤ dp) (h3 : 0 ≤ z) (h4 : sp + z ≤ n0) (h5 : dp + z ≤ n1) (hdd : 1 ≤ d) (hsum : (st.map fun v => v.category).sum + (nativeFrameWords "java/lang/System" "arraycopy" 5 + 11) ≤ 30) (kk : mo_V κ k n (pc + 3) ls st G (mo_ur M a (va_cpy (M a0) (M a) sp.toNat dp.toNat z.toNat)) t) : mo_V κ k n pc ls (mo_iv z :: mo_iv dp :: .ref a :: mo_iv sp :: .ref a0 :: st) G M t := by
  obtain ⟨⟨p, l, e, R, s⟩, ⟨m, args, below, meth, c⟩, Q, ρ⟩ := κ
  obtain ⟨hx, hb, hml, hown, hts, hK, hlk, hrt, hb0, hRf, hRl, hlf, hρ⟩ := X
  intro H locs lr ht hR hS hl
  have e1 : (Int32.ofInt sp).toNatClampNeg = sp.toNat := mo_cl (by omega) h1
  have e2 : (Int32.ofInt dp).toNatClampNeg = dp.toNat := mo_cl (by omega) h2
  have e3 : (Int32.ofInt z).toNatClampNeg = z.toNat := mo_cl (by omega) h3
  have nn : ∀ {y : Int}, 0 ≤ y → y ≤ 2147483647 → ¬ Int32.ofInt y < 0 := fun {y} g1 g2 g3 => by
    rw [mo_0, mo_lt (by omega) (by omega)] at g3
    omega
  have hc0 : H[a0]? = some (vp_cell ρ.2.1.1 (n0, .inl (fun j => Int32.ofInt (M a0 j)))) := (hR a0 _ hG0).2
  have hc1 : H[a]? = some (vp_cell ρ.2.1.1 (n1, .inl (fun j => Int32.ofInt (M a j)))) := (hR a _ hG1).2
  obtain ⟨-, k0, hk0, cm0, hkk0⟩ := (hK.2 0 _ rfl).1 n0 (fun j => mo_iv (M a0 j))
  obtain ⟨-, k1, hk1, cm1, hkk1⟩ := (hK.2 0 _ rfl).1 n1 (fun j => mo_iv (M a j))
  intro T hT XT
  obtain ⟨vm', X', step⟩ := XT.arraycopy hx hown (hts _ hw) (hts _ (mo_tb1 217 rfl rfl)) (hts _ (mo_tb1 216 rfl rfl)) (hts _ mo_wsys) (src := a0) (dst := a) (cs := vp_cell ρ.2.1.1 (n0, .inl (fun j => Int32.ofInt (M a0 j)))) (cd := vp_cell ρ.2.1.1 (n1, .inl (fun j => Int32.ofInt (M a j)))) (srcPos := Int32.ofInt sp) (destPos := Int32.ofInt dp) (n := Int32.ofInt z) (by rw [hT]; exact hc0) (by rw [hT]; exact hc1)
    (fun _ h => by cases h) (fun _ h => by cases h) (fun h => by cases h) (fun h => by cases h) hk0 hk1 hkk0 hkk1 rfl (nn h1 (by omega)) (nn h2 (by omega)) (nn h3 (by omega))
    (by rw [mo_ti (by omega), mo_ti (by omega)]; show ¬ _ > ((arrV _ n0 _).slots.size : Int); rw [arrV_size]; omega)
    (by rw [mo_ti (by omega), mo_ti (by omega)]; show ¬ _ > ((arrV _ n1 _).slots.size : Int); rw [arrV_size]; omega)
    (fun vm₁ _ i hi => by
      have e : (vp_cell ρ.2.1.1 (n0, .inl (fun j => Int32.ofInt (M a0 j)))).slots.getD ((Int32.ofInt sp).toNatClampNeg + i) .null = mo_iv (M a0 ((Int32.ofInt sp).toNatClampNeg + i)) := by
        show (arrV ρ.2.1.1 n0 (fun j => mo_iv (M a0 j))).slots.getD _ _ = _
        rw [Array.getD_eq_getD_getElem?, arrV_read _ _ (by rw [e1]; rw [e3] at hi; omega)]
        rfl
      refine ⟨?_, ?_⟩
      · rw [e]
        rfl
      · rw [e]
        exact trivial)
    (g := F0 m pc lr (mo_iv z :: mo_iv dp :: .ref a :: mo_iv sp :: .ref a0 :: st)) rfl hl.1 (rest := st) rfl (by rw [hb]; exact hd) (Nat.le_trans hdd hRf) (by show 2 * 0 + _ + _ ≤ _; omega)
  have ec : copied (vp_cell ρ.2.1.1 (n0, .inl (fun j => Int32.ofInt (M a0 j)))) (vp_cell ρ.2.1.1 (n1, .inl (fun j => Int32.ofInt (M a j)))) (Int32.ofInt sp) (Int32.ofInt dp) (Int32.ofInt z) = vp_cell ρ.2.1.1 (n1, .inl (va_cpy (fun j => Int32.ofInt (M a0 j)) (fun j => Int32.ofInt (M a j)) sp.toNat dp.toNat z.toNat)) := by
    have h := va_copied (fun z => Value.int z) ρ.2.1.1 ρ.2.1.1 (n0 := n0) (n1 := n1) (fun j => Int32.ofInt (M a0 j)) (fun j => Int32.ofInt (M a j)) (sp := (Int32.ofInt sp).toNatClampNeg) (dp := (Int32.ofInt dp).toNatClampNeg) (n := (Int32.ofInt z).toNatClampNeg) (by rw [e1, e3]; omega)
    refine Eq.trans h ?_
    rw [e1, e2, e3]
    rfl
  rw [ec] at X' step
  have hlt : a < H.size := (Array.getElem?_eq_some_iff.mp hc1).1
  generalize hC : vp_cell ρ.2.1.1 (n1, .inl (va_cpy (fun j => Int32.ofInt (M a0 j)) (fun j => Int32.ofInt (M a j)) sp.toNat dp.toNat z.toNat)) = C1 at X' step
  have hheap : ((T.setVm vm').setCell a C1).heap = H.setIfInBounds a C1 := by rw [← hT]; rfl
  have oq : ∀ q : Nat, q ≠ a → (H.setIfInBounds a C1)[q]? = H[q]? := fun q hq => by simp [Array.getElem?_setIfInBounds, Ne.symm hq]
  have hcell : (H.setIfInBounds a C1)[a]? = some C1 := by simp [Array.getElem?_setIfInBounds, hlt]
  obtain ⟨u, a1, b1⟩ := kk (H.setIfInBounds a C1) _ lr (by simp; exact ht) (mo_R_set hR hG1 (by
      show (H.setIfInBounds a C1)[a]? = some (vp_cell _ _)
      rw [hcell, ← hC]
      congr 3
      refine congrArg Sum.inl ?_
      funext j
      rw [mo_ur_s]
      unfold va_cpy
      split <;> rfl) oq) ⟨by simp; exact hS.1, fun q g1 g2 => by
      rw [oq q (fun e => g2 (by rw [e]; exact (hR a _ hG1).1))]
      exact hS.2.1 q g1 g2, fun q hq => by
      rcases List.mem_append.mp hq with h | h
      · exact hS.2.2 q h
      · obtain ⟨y, -, hy⟩ := List.mem_map.mp h
        rw [← hy]
        exact (hR a _ hG1).1⟩ hl _ hheap X'
  exact ⟨u, step u a1, b1⟩
end MOS
end
section
theorem mo_wz_L : Cond.initialized RL ∈ mo_B := mo_tb1 0 rfl rfl
theorem mo_wz_X4 : Cond.initialized RX4 ∈ mo_B := mo_tb1 1 rfl rfl
theorem mo_wz_X2 : Cond.initialized RX2 ∈ mo_B := mo_tb1 2 rfl rfl
theorem mo_wz_X1 : Cond.initialized RX1 ∈ mo_B := mo_tb1 3 rfl rfl
theorem mo_wz_X3 : Cond.initialized RX3 ∈ mo_B := mo_tb1 4 rfl rfl
theorem mo_wz_X0 : Cond.initialized RX0 ∈ mo_B := mo_tb1 5 rfl rfl
theorem mo_wz_X5 : Cond.initialized RX5 ∈ mo_B := mo_tb1 6 rfl rfl
theorem mo_wz_Throwable : Cond.initialized "java/lang/Throwable" ∈ mo_B := mo_tb1 7 rfl rfl
theorem mo_wz_Exception : Cond.initialized "java/lang/Exception" ∈ mo_B := mo_tb1 8 rfl rfl
theorem mo_wz_RuntimeException : Cond.initialized "java/lang/RuntimeException" ∈ mo_B := mo_tb1 9 rfl rfl
theorem mo_wz_IllegalArgumentException : Cond.initialized "java/lang/IllegalArgumentException" ∈ mo_B := mo_tb1 10 rfl rfl
theorem mo_wz_IllegalStateException : Cond.initialized "java/lang/IllegalStateException" ∈ mo_B := mo_tb1 11 rfl rfl
theorem mo_wz_J9 : Cond.initialized RJ9 ∈ mo_B := mo_tb1 12 rfl rfl
theorem mo_wz_J10 : Cond.initialized RJ10 ∈ mo_B := mo_tb1 13 rfl rfl
theorem mo_wz_IndexOutOfBoundsException : Cond.initialized "java/lang/IndexOutOfBoundsException" ∈ mo_B := mo_tb1 14 rfl rfl
theorem mo_wq_L_8 : Cond.classLink RL 8 RX4 ∈ mo_B := mo_tb1 15 rfl rfl
theorem mo_wn_X4 : Cond.instantiable RX4 6 ∈ mo_B := mo_tb1 16 rfl rfl
theorem mo_wm_L_93 : Cond.methodLink RL 93 yX4_init ∈ mo_B := mo_tb1 17 rfl rfl
theorem mo_wi_yX4_init : Cond.instanceMethod yX4_init ∈ mo_B := mo_tb1 18 rfl rfl
theorem mo_wc_yX4_init : Cond.code yX4_init cX4_init 2 none ∈ mo_B := mo_tb1 19 rfl rfl
theorem mo_wm_X4_3 : Cond.methodLink RX4 3 objectInit ∈ mo_B := mo_tb1 20 rfl rfl
theorem mo_wi_objectInit : Cond.instanceMethod objectInit ∈ mo_B := mo_tb1 21 rfl rfl
theorem mo_wq_X4_9 : Cond.classLink RX4 9 RX2 ∈ mo_B := mo_tb1 23 rfl rfl
theorem mo_wn_X2 : Cond.instantiable RX2 15 ∈ mo_B := mo_tb1 24 rfl rfl
theorem mo_wi_yX2_init : Cond.instanceMethod yX2_init ∈ mo_B := mo_tb1 26 rfl rfl
theorem mo_wc_yX2_init : Cond.code yX2_init cX2_init 1 none ∈ mo_B := mo_tb1 27 rfl rfl
theorem mo_wm_X2_3 : Cond.methodLink RX2 3 objectInit ∈ mo_B := mo_tb1 28 rfl rfl
theorem mo_wq_X2_9 : Cond.classLink RX2 9 RX1 ∈ mo_B := mo_tb1 29 rfl rfl
theorem mo_wn_X1 : Cond.instantiable RX1 1 ∈ mo_B := mo_tb1 30 rfl rfl
theorem mo_wm_X2_11 : Cond.methodLink RX2 11 yX1_init ∈ mo_B := mo_tb1 31 rfl rfl
theorem mo_wi_yX1_init : Cond.instanceMethod yX1_init ∈ mo_B := mo_tb1 32 rfl rfl
theorem mo_wc_yX1_init : Cond.code yX1_init cX1_init 2 none ∈ mo_B := mo_tb1 33 rfl rfl
theorem mo_wm_X1_1 : Cond.methodLink RX1 1 objectInit ∈ mo_B := mo_tb1 34 rfl rfl
theorem mo_wf_X1_7 : Cond.fieldLink RX1 7 "MeetingOrders$Row" "cells" "[I" ∈ mo_B := mo_tb1 35 rfl rfl
theorem mo_wf_X2_44 : Cond.fieldLink RX2 44 "MeetingOrders$State" "orders" "I" ∈ mo_B := mo_tb1 40 rfl rfl
theorem mo_wf_X4_55 : Cond.fieldLink RX4 55 "MeetingOrders$State" "orders" "I" ∈ mo_B := mo_tb1 41 rfl rfl
theorem mo_wf_X3_87 : Cond.fieldLink RX3 87 "MeetingOrders$State" "orders" "I" ∈ mo_B := mo_tb1 42 rfl rfl
theorem mo_wf_X2_48 : Cond.fieldLink RX2 48 "MeetingOrders$State" "escorts" "I" ∈ mo_B := mo_tb1 43 rfl rfl
theorem mo_wf_X4_112 : Cond.fieldLink RX4 112 "MeetingOrders$State" "escorts" "I" ∈ mo_B := mo_tb1 44 rfl rfl
theorem mo_wf_X3_128 : Cond.fieldLink RX3 128 "MeetingOrders$State" "escorts" "I" ∈ mo_B := mo_tb1 45 rfl rfl
theorem mo_wf_X2_51 : Cond.fieldLink RX2 51 "MeetingOrders$State" "venues" "I" ∈ mo_B := mo_tb1 46 rfl rfl
theorem mo_wf_X4_132 : Cond.fieldLink RX4 132 "MeetingOrders$State" "venues" "I" ∈ mo_B := mo_tb1 47 rfl rfl
theorem mo_wf_X3_131 : Cond.fieldLink RX3 131 "MeetingOrders$State" "venues" "I" ∈ mo_B := mo_tb1 48 rfl rfl
theorem mo_wf_X2_54 : Cond.fieldLink RX2 54 "MeetingOrders$State" "meetings" "I" ∈ mo_B := mo_tb1 49 rfl rfl
theorem mo_wf_X3_35 : Cond.fieldLink RX3 35 "MeetingOrders$State" "meetings" "I" ∈ mo_B := mo_tb1 50 rfl rfl
theorem mo_wf_X4_246 : Cond.fieldLink RX4 246 "MeetingOrders$State" "meetings" "I" ∈ mo_B := mo_tb1 51 rfl rfl
theorem mo_wf_X2_57 : Cond.fieldLink RX2 57 "MeetingOrders$State" "week" "I" ∈ mo_B := mo_tb1 52 rfl rfl
theorem mo_wf_X4_195 : Cond.fieldLink RX4 195 "MeetingOrders$State" "week" "I" ∈ mo_B := mo_tb1 53 rfl rfl
theorem mo_wf_X2_60 : Cond.fieldLink RX2 60 "MeetingOrders$State" "nextNumber" "I" ∈ mo_B := mo_tb1 54 rfl rfl
theorem mo_wf_X4_249 : Cond.fieldLink RX4 249 "MeetingOrders$State" "nextNumber" "I" ∈ mo_B := mo_tb1 55 rfl rfl
theorem mo_wf_X2_14 : Cond.fieldLink RX2 14 "MeetingOrders$State" "hours" "LMeetingOrders$Row;" ∈ mo_B := mo_tb1 56 rfl rfl
theorem mo_wf_X2_20 : Cond.fieldLink RX2 20 "MeetingOrders$State" "allowed" "LMeetingOrders$Row;" ∈ mo_B := mo_tb1 57 rfl rfl
theorem mo_wf_X3_60 : Cond.fieldLink RX3 60 "MeetingOrders$State" "allowed" "LMeetingOrders$Row;" ∈ mo_B := mo_tb1 58 rfl rfl
theorem mo_wf_X4_93 : Cond.fieldLink RX4 93 "MeetingOrders$State" "allowed" "LMeetingOrders$Row;" ∈ mo_B := mo_tb1 59 rfl rfl
theorem mo_wf_X2_23 : Cond.fieldLink RX2 23 "MeetingOrders$State" "held" "LMeetingOrders$Row;" ∈ mo_B := mo_tb1 60 rfl rfl
theorem mo_wf_X4_213 : Cond.fieldLink RX4 213 "MeetingOrders$State" "held" "LMeetingOrders$Row;" ∈ mo_B := mo_tb1 61 rfl rfl
theorem mo_wf_X2_26 : Cond.fieldLink RX2 26 "MeetingOrders$State" "missed" "LMeetingOrders$Row;" ∈ mo_B := mo_tb1 62 rfl rfl
theorem mo_wf_X4_216 : Cond.fieldLink RX4 216 "MeetingOrders$State" "missed" "LMeetingOrders$Row;" ∈ mo_B := mo_tb1 63 rfl rfl
theorem mo_wf_X2_29 : Cond.fieldLink RX2 29 "MeetingOrders$State" "slots" "LMeetingOrders$Row;" ∈ mo_B := mo_tb1 64 rfl rfl
theorem mo_wf_X3_70 : Cond.fieldLink RX3 70 "MeetingOrders$State" "slots" "LMeetingOrders$Row;" ∈ mo_B := mo_tb1 65 rfl rfl
theorem mo_wf_X4_127 : Cond.fieldLink RX4 127 "MeetingOrders$State" "slots" "LMeetingOrders$Row;" ∈ mo_B := mo_tb1 66 rfl rfl
theorem mo_wf_X2_32 : Cond.fieldLink RX2 32 "MeetingOrders$State" "limits" "LMeetingOrders$Row;" ∈ mo_B := mo_tb1 67 rfl rfl
theorem mo_wf_X3_73 : Cond.fieldLink RX3 73 "MeetingOrders$State" "limits" "LMeetingOrders$Row;" ∈ mo_B := mo_tb1 68 rfl rfl
theorem mo_wf_X4_227 : Cond.fieldLink RX4 227 "MeetingOrders$State" "limits" "LMeetingOrders$Row;" ∈ mo_B := mo_tb1 69 rfl rfl
theorem mo_wf_X2_35 : Cond.fieldLink RX2 35 "MeetingOrders$State" "heldWith" "LMeetingOrders$Row;" ∈ mo_B := mo_tb1 70 rfl rfl
theorem mo_wf_X4_233 : Cond.fieldLink RX4 233 "MeetingOrders$State" "heldWith" "LMeetingOrders$Row;" ∈ mo_B := mo_tb1 71 rfl rfl
theorem mo_wf_X2_38 : Cond.fieldLink RX2 38 "MeetingOrders$State" "rooms" "LMeetingOrders$Row;" ∈ mo_B := mo_tb1 72 rfl rfl
theorem mo_wf_X3_80 : Cond.fieldLink RX3 80 "MeetingOrders$State" "rooms" "LMeetingOrders$Row;" ∈ mo_B := mo_tb1 73 rfl rfl
theorem mo_wf_X4_321 : Cond.fieldLink RX4 321 "MeetingOrders$State" "rooms" "LMeetingOrders$Row;" ∈ mo_B := mo_tb1 74 rfl rfl
theorem mo_wf_X2_41 : Cond.fieldLink RX2 41 "MeetingOrders$State" "facts" "LMeetingOrders$Row;" ∈ mo_B := mo_tb1 75 rfl rfl
theorem mo_wq_X4_23 : Cond.classLink RX4 23 RX3 ∈ mo_B := mo_tb1 108 rfl rfl
theorem mo_wn_X3 : Cond.instantiable RX3 8 ∈ mo_B := mo_tb1 109 rfl rfl
theorem mo_wi_yX3_init : Cond.instanceMethod yX3_init ∈ mo_B := mo_tb1 111 rfl rfl
theorem mo_wc_yX3_init : Cond.code yX3_init cX3_init 1 none ∈ mo_B := mo_tb1 112 rfl rfl
theorem mo_wm_X3_3 : Cond.methodLink RX3 3 objectInit ∈ mo_B := mo_tb1 113 rfl rfl
theorem mo_wq_X3_9 : Cond.classLink RX3 9 RX1 ∈ mo_B := mo_tb1 114 rfl rfl
theorem mo_wm_X3_11 : Cond.methodLink RX3 11 yX1_init ∈ mo_B := mo_tb1 115 rfl rfl
theorem mo_wf_X3_14 : Cond.fieldLink RX3 14 "MeetingOrders$WeekBook" "daysOfOrder" "LMeetingOrders$Row;" ∈ mo_B := mo_tb1 116 rfl rfl
theorem mo_wf_X3_20 : Cond.fieldLink RX3 20 "MeetingOrders$WeekBook" "slotsOfEscort" "LMeetingOrders$Row;" ∈ mo_B := mo_tb1 117 rfl rfl
theorem mo_wf_X3_23 : Cond.fieldLink RX3 23 "MeetingOrders$WeekBook" "meetingsOfEscort" "LMeetingOrders$Row;" ∈ mo_B := mo_tb1 118 rfl rfl
theorem mo_wf_X3_26 : Cond.fieldLink RX3 26 "MeetingOrders$WeekBook" "roomsTaken" "LMeetingOrders$Row;" ∈ mo_B := mo_tb1 119 rfl rfl
theorem mo_wf_X3_29 : Cond.fieldLink RX3 29 "MeetingOrders$WeekBook" "debts" "LMeetingOrders$Row;" ∈ mo_B := mo_tb1 120 rfl rfl
theorem mo_wf_X3_108 : Cond.fieldLink RX3 108 "MeetingOrders$WeekBook" "slot" "I" ∈ mo_B := mo_tb1 121 rfl rfl
theorem mo_wf_X4_266 : Cond.fieldLink RX4 266 "MeetingOrders$WeekBook" "slot" "I" ∈ mo_B := mo_tb1 122 rfl rfl
theorem mo_wf_X3_111 : Cond.fieldLink RX3 111 "MeetingOrders$WeekBook" "escort" "I" ∈ mo_B := mo_tb1 123 rfl rfl
theorem mo_wf_X3_114 : Cond.fieldLink RX3 114 "MeetingOrders$WeekBook" "venue" "I" ∈ mo_B := mo_tb1 124 rfl rfl
theorem mo_wq_X4_30 : Cond.classLink RX4 30 RX0 ∈ mo_B := mo_tb1 142 rfl rfl
theorem mo_wn_X0 : Cond.instantiable RX0 8 ∈ mo_B := mo_tb1 143 rfl rfl
theorem mo_wi_yX0_init : Cond.instanceMethod yX0_init ∈ mo_B := mo_tb1 145 rfl rfl
theorem mo_wc_yX0_init : Cond.code yX0_init cX0_init 1 none ∈ mo_B := mo_tb1 146 rfl rfl
theorem mo_wm_X0_3 : Cond.methodLink RX0 3 objectInit ∈ mo_B := mo_tb1 147 rfl rfl
theorem mo_wq_X0_9 : Cond.classLink RX0 9 RX1 ∈ mo_B := mo_tb1 148 rfl rfl
theorem mo_wm_X0_11 : Cond.methodLink RX0 11 yX1_init ∈ mo_B := mo_tb1 149 rfl rfl
theorem mo_wf_X0_14 : Cond.fieldLink RX0 14 "MeetingOrders$OrderText" "bytes" "LMeetingOrders$Row;" ∈ mo_B := mo_tb1 150 rfl rfl
theorem mo_wf_X0_20 : Cond.fieldLink RX0 20 "MeetingOrders$OrderText" "kinds" "LMeetingOrders$Row;" ∈ mo_B := mo_tb1 151 rfl rfl
theorem mo_wf_X4_289 : Cond.fieldLink RX4 289 "MeetingOrders$OrderText" "kinds" "LMeetingOrders$Row;" ∈ mo_B := mo_tb1 152 rfl rfl
theorem mo_wf_X0_23 : Cond.fieldLink RX0 23 "MeetingOrders$OrderText" "numbers" "LMeetingOrders$Row;" ∈ mo_B := mo_tb1 153 rfl rfl
theorem mo_wf_X4_292 : Cond.fieldLink RX4 292 "MeetingOrders$OrderText" "numbers" "LMeetingOrders$Row;" ∈ mo_B := mo_tb1 154 rfl rfl
theorem mo_wf_X0_26 : Cond.fieldLink RX0 26 "MeetingOrders$OrderText" "weeks" "LMeetingOrders$Row;" ∈ mo_B := mo_tb1 155 rfl rfl
theorem mo_wf_X4_295 : Cond.fieldLink RX4 295 "MeetingOrders$OrderText" "weeks" "LMeetingOrders$Row;" ∈ mo_B := mo_tb1 156 rfl rfl
theorem mo_wf_X0_29 : Cond.fieldLink RX0 29 "MeetingOrders$OrderText" "hours" "LMeetingOrders$Row;" ∈ mo_B := mo_tb1 157 rfl rfl
theorem mo_wf_X4_298 : Cond.fieldLink RX4 298 "MeetingOrders$OrderText" "hours" "LMeetingOrders$Row;" ∈ mo_B := mo_tb1 158 rfl rfl
theorem mo_wf_X0_32 : Cond.fieldLink RX0 32 "MeetingOrders$OrderText" "length" "I" ∈ mo_B := mo_tb1 159 rfl rfl
theorem mo_wf_X4_275 : Cond.fieldLink RX4 275 "MeetingOrders$OrderText" "length" "I" ∈ mo_B := mo_tb1 160 rfl rfl
theorem mo_wf_X0_40 : Cond.fieldLink RX0 40 "MeetingOrders$OrderText" "count" "I" ∈ mo_B := mo_tb1 161 rfl rfl
theorem mo_wf_X4_286 : Cond.fieldLink RX4 286 "MeetingOrders$OrderText" "count" "I" ∈ mo_B := mo_tb1 162 rfl rfl
theorem mo_wf_X0_43 : Cond.fieldLink RX0 43 "MeetingOrders$OrderText" "place" "I" ∈ mo_B := mo_tb1 163 rfl rfl
theorem mo_wf_X4_12 : Cond.fieldLink RX4 12 "MeetingOrders" "now" "LMeetingOrders$State;" ∈ mo_B := mo_tb1 181 rfl rfl
theorem mo_wf_X4_16 : Cond.fieldLink RX4 16 "MeetingOrders" "trial" "LMeetingOrders$State;" ∈ mo_B := mo_tb1 182 rfl rfl
theorem mo_wf_X4_19 : Cond.fieldLink RX4 19 "MeetingOrders" "saved" "[LMeetingOrders$State;" ∈ mo_B := mo_tb1 183 rfl rfl
theorem mo_wf_X4_26 : Cond.fieldLink RX4 26 "MeetingOrders" "book" "LMeetingOrders$WeekBook;" ∈ mo_B := mo_tb1 184 rfl rfl
theorem mo_wf_X4_33 : Cond.fieldLink RX4 33 "MeetingOrders" "text" "LMeetingOrders$OrderText;" ∈ mo_B := mo_tb1 185 rfl rfl
theorem mo_wf_X4_37 : Cond.fieldLink RX4 37 "MeetingOrders" "savedCount" "I" ∈ mo_B := mo_tb1 186 rfl rfl
theorem mo_wm_L_171 : Cond.methodLink RL 171 yX4_settledIn ∈ mo_B := mo_tb1 200 rfl rfl
theorem mo_wi_yX4_settledIn : Cond.instanceMethod yX4_settledIn ∈ mo_B := mo_tb1 201 rfl rfl
theorem mo_wl_yX4_settledIn : Cond.selects RX4 yX4_settledIn yX4_settledIn ∈ mo_B := mo_tb1 202 rfl rfl
theorem mo_wc_yX4_settledIn : Cond.code yX4_settledIn cX4_settledIn 2 (some .int) ∈ mo_B := mo_tb1 203 rfl rfl
theorem mo_wm_X4_269 : Cond.methodLink RX4 269 yX2_copyFrom ∈ mo_B := mo_tb1 204 rfl rfl
theorem mo_wi_yX2_copyFrom : Cond.instanceMethod yX2_copyFrom ∈ mo_B := mo_tb1 205 rfl rfl
theorem mo_wl_yX2_copyFrom : Cond.selects RX2 yX2_copyFrom yX2_copyFrom ∈ mo_B := mo_tb1 206 rfl rfl
theorem mo_wc_yX2_copyFrom : Cond.code yX2_copyFrom cX2_copyFrom 2 none ∈ mo_B := mo_tb1 207 rfl rfl
theorem mo_wm_X2_63 : Cond.methodLink RX2 63 yX1_copyFrom ∈ mo_B := mo_tb1 208 rfl rfl
theorem mo_wi_yX1_copyFrom : Cond.instanceMethod yX1_copyFrom ∈ mo_B := mo_tb1 209 rfl rfl
theorem mo_wl_yX1_copyFrom : Cond.selects RX1 yX1_copyFrom yX1_copyFrom ∈ mo_B := mo_tb1 210 rfl rfl
theorem mo_wc_yX1_copyFrom : Cond.code yX1_copyFrom cX1_copyFrom 2 none ∈ mo_B := mo_tb1 211 rfl rfl
theorem mo_wm_X1_13 : Cond.methodLink RX1 13 Lib.Math.min.name ∈ mo_B := mo_tb1 212 rfl rfl
theorem mo_wm_X1_19 : Cond.methodLink RX1 19 arraycopyName ∈ mo_B := mo_tb1 215 rfl rfl
theorem mo_wm_X4_169 : Cond.methodLink RX4 169 yX3_planAll ∈ mo_B := mo_tb1 218 rfl rfl
theorem mo_wi_yX3_planAll : Cond.instanceMethod yX3_planAll ∈ mo_B := mo_tb1 219 rfl rfl
theorem mo_wl_yX3_planAll : Cond.selects RX3 yX3_planAll yX3_planAll ∈ mo_B := mo_tb1 220 rfl rfl
theorem mo_wc_yX3_planAll : Cond.code yX3_planAll cX3_planAll 6 (some .int) ∈ mo_B := mo_tb1 221 rfl rfl
theorem mo_wm_X3_83 : Cond.methodLink RX3 83 yX3_open ∈ mo_B := mo_tb1 222 rfl rfl
theorem mo_wi_yX3_open : Cond.instanceMethod yX3_open ∈ mo_B := mo_tb1 223 rfl rfl
theorem mo_wl_yX3_open : Cond.selects RX3 yX3_open yX3_open ∈ mo_B := mo_tb1 224 rfl rfl
theorem mo_wc_yX3_open : Cond.code yX3_open cX3_open 4 none ∈ mo_B := mo_tb1 225 rfl rfl
theorem mo_wm_X3_32 : Cond.methodLink RX3 32 yX1_clear ∈ mo_B := mo_tb1 226 rfl rfl
theorem mo_wi_yX1_clear : Cond.instanceMethod yX1_clear ∈ mo_B := mo_tb1 227 rfl rfl
theorem mo_wl_yX1_clear : Cond.selects RX1 yX1_clear yX1_clear ∈ mo_B := mo_tb1 228 rfl rfl
theorem mo_wc_yX1_clear : Cond.code yX1_clear cX1_clear 2 none ∈ mo_B := mo_tb1 229 rfl rfl
theorem mo_wm_X3_41 : Cond.methodLink RX3 41 yX2_takesPlaceIn ∈ mo_B := mo_tb1 230 rfl rfl
theorem mo_wi_yX2_takesPlaceIn : Cond.instanceMethod yX2_takesPlaceIn ∈ mo_B := mo_tb1 231 rfl rfl
theorem mo_wl_yX2_takesPlaceIn : Cond.selects RX2 yX2_takesPlaceIn yX2_takesPlaceIn ∈ mo_B := mo_tb1 232 rfl rfl
theorem mo_wc_yX2_takesPlaceIn : Cond.code yX2_takesPlaceIn cX2_takesPlaceIn 3 (some .boolean) ∈ mo_B := mo_tb1 233 rfl rfl
theorem mo_wm_X2_83 : Cond.methodLink RX2 83 yX2_fact ∈ mo_B := mo_tb1 234 rfl rfl
theorem mo_wi_yX2_fact : Cond.instanceMethod yX2_fact ∈ mo_B := mo_tb1 235 rfl rfl
theorem mo_wl_yX2_fact : Cond.selects RX2 yX2_fact yX2_fact ∈ mo_B := mo_tb1 236 rfl rfl
theorem mo_wc_yX2_fact : Cond.code yX2_fact cX2_fact 3 (some .int) ∈ mo_B := mo_tb1 237 rfl rfl
theorem mo_wm_X2_75 : Cond.methodLink RX2 75 yX1_get ∈ mo_B := mo_tb1 238 rfl rfl
theorem mo_wi_yX1_get : Cond.instanceMethod yX1_get ∈ mo_B := mo_tb1 239 rfl rfl
theorem mo_wl_yX1_get : Cond.selects RX1 yX1_get yX1_get ∈ mo_B := mo_tb2 0 rfl rfl
theorem mo_wc_yX1_get : Cond.code yX1_get cX1_get 2 (some .int) ∈ mo_B := mo_tb2 1 rfl rfl
theorem mo_wm_X3_45 : Cond.methodLink RX3 45 yX2_fact ∈ mo_B := mo_tb2 2 rfl rfl
theorem mo_wm_X3_49 : Cond.methodLink RX3 49 yX3_take ∈ mo_B := mo_tb2 3 rfl rfl
theorem mo_wi_yX3_take : Cond.instanceMethod yX3_take ∈ mo_B := mo_tb2 4 rfl rfl
theorem mo_wl_yX3_take : Cond.selects RX3 yX3_take yX3_take ∈ mo_B := mo_tb2 5 rfl rfl
theorem mo_wc_yX3_take : Cond.code yX3_take cX3_take 5 none ∈ mo_B := mo_tb2 6 rfl rfl
theorem mo_wm_X3_53 : Cond.methodLink RX3 53 yX1_mark ∈ mo_B := mo_tb2 7 rfl rfl
theorem mo_wi_yX1_mark : Cond.instanceMethod yX1_mark ∈ mo_B := mo_tb2 8 rfl rfl
theorem mo_wl_yX1_mark : Cond.selects RX1 yX1_mark yX1_mark ∈ mo_B := mo_tb2 9 rfl rfl
theorem mo_wc_yX1_mark : Cond.code yX1_mark cX1_mark 3 none ∈ mo_B := mo_tb2 10 rfl rfl
theorem mo_wm_X3_57 : Cond.methodLink RX3 57 yX1_add ∈ mo_B := mo_tb2 11 rfl rfl
theorem mo_wi_yX1_add : Cond.instanceMethod yX1_add ∈ mo_B := mo_tb2 12 rfl rfl
theorem mo_wl_yX1_add : Cond.selects RX1 yX1_add yX1_add ∈ mo_B := mo_tb2 13 rfl rfl
theorem mo_wc_yX1_add : Cond.code yX1_add cX1_add 3 none ∈ mo_B := mo_tb2 14 rfl rfl
theorem mo_wm_X3_90 : Cond.methodLink RX3 90 yX2_debt ∈ mo_B := mo_tb2 15 rfl rfl
theorem mo_wi_yX2_debt : Cond.instanceMethod yX2_debt ∈ mo_B := mo_tb2 16 rfl rfl
theorem mo_wl_yX2_debt : Cond.selects RX2 yX2_debt yX2_debt ∈ mo_B := mo_tb2 17 rfl rfl
theorem mo_wc_yX2_debt : Cond.code yX2_debt cX2_debt 4 (some .int) ∈ mo_B := mo_tb2 18 rfl rfl
theorem mo_wm_X2_86 : Cond.methodLink RX2 86 yX2_plannedUpTo ∈ mo_B := mo_tb2 19 rfl rfl
theorem mo_wi_yX2_plannedUpTo : Cond.instanceMethod yX2_plannedUpTo ∈ mo_B := mo_tb2 20 rfl rfl
theorem mo_wl_yX2_plannedUpTo : Cond.selects RX2 yX2_plannedUpTo yX2_plannedUpTo ∈ mo_B := mo_tb2 21 rfl rfl
theorem mo_wc_yX2_plannedUpTo : Cond.code yX2_plannedUpTo cX2_plannedUpTo 5 (some .int) ∈ mo_B := mo_tb2 22 rfl rfl
theorem mo_wm_X2_89 : Cond.methodLink RX2 89 yX2_hoursUpTo ∈ mo_B := mo_tb2 23 rfl rfl
theorem mo_wi_yX2_hoursUpTo : Cond.instanceMethod yX2_hoursUpTo ∈ mo_B := mo_tb2 24 rfl rfl
theorem mo_wl_yX2_hoursUpTo : Cond.selects RX2 yX2_hoursUpTo yX2_hoursUpTo ∈ mo_B := mo_tb2 25 rfl rfl
theorem mo_wc_yX2_hoursUpTo : Cond.code yX2_hoursUpTo cX2_hoursUpTo 5 (some .int) ∈ mo_B := mo_tb2 26 rfl rfl
theorem mo_wm_X2_79 : Cond.methodLink RX2 79 yX2_hoursIn ∈ mo_B := mo_tb2 27 rfl rfl
theorem mo_wi_yX2_hoursIn : Cond.instanceMethod yX2_hoursIn ∈ mo_B := mo_tb2 28 rfl rfl
theorem mo_wl_yX2_hoursIn : Cond.selects RX2 yX2_hoursIn yX2_hoursIn ∈ mo_B := mo_tb2 29 rfl rfl
theorem mo_wc_yX2_hoursIn : Cond.code yX2_hoursIn cX2_hoursIn 3 (some .int) ∈ mo_B := mo_tb2 30 rfl rfl
theorem mo_wm_X2_92 : Cond.methodLink RX2 92 Lib.Math.max.name ∈ mo_B := mo_tb2 31 rfl rfl
theorem mo_wm_X3_93 : Cond.methodLink RX3 93 yX1_set ∈ mo_B := mo_tb2 34 rfl rfl
theorem mo_wi_yX1_set : Cond.instanceMethod yX1_set ∈ mo_B := mo_tb2 35 rfl rfl
theorem mo_wl_yX1_set : Cond.selects RX1 yX1_set yX1_set ∈ mo_B := mo_tb2 36 rfl rfl
theorem mo_wc_yX1_set : Cond.code yX1_set cX1_set 3 none ∈ mo_B := mo_tb2 37 rfl rfl
theorem mo_wm_X3_96 : Cond.methodLink RX3 96 yX2_isFull ∈ mo_B := mo_tb2 38 rfl rfl
theorem mo_wi_yX2_isFull : Cond.instanceMethod yX2_isFull ∈ mo_B := mo_tb2 39 rfl rfl
theorem mo_wl_yX2_isFull : Cond.selects RX2 yX2_isFull yX2_isFull ∈ mo_B := mo_tb2 40 rfl rfl
theorem mo_wc_yX2_isFull : Cond.code yX2_isFull cX2_isFull 1 (some .boolean) ∈ mo_B := mo_tb2 41 rfl rfl
theorem mo_wm_X3_100 : Cond.methodLink RX3 100 yX3_greatestDebt ∈ mo_B := mo_tb2 42 rfl rfl
theorem mo_wi_yX3_greatestDebt : Cond.instanceMethod yX3_greatestDebt ∈ mo_B := mo_tb2 44 rfl rfl
theorem mo_wc_yX3_greatestDebt : Cond.code yX3_greatestDebt cX3_greatestDebt 5 (some .int) ∈ mo_B := mo_tb2 45 rfl rfl
theorem mo_wm_X3_63 : Cond.methodLink RX3 63 yX1_get ∈ mo_B := mo_tb2 46 rfl rfl
theorem mo_wm_X3_104 : Cond.methodLink RX3 104 yX3_search ∈ mo_B := mo_tb2 47 rfl rfl
theorem mo_wi_yX3_search : Cond.instanceMethod yX3_search ∈ mo_B := mo_tb2 48 rfl rfl
theorem mo_wl_yX3_search : Cond.selects RX3 yX3_search yX3_search ∈ mo_B := mo_tb2 49 rfl rfl
theorem mo_wc_yX3_search : Cond.code yX3_search cX3_search 4 (some .boolean) ∈ mo_B := mo_tb2 50 rfl rfl
theorem mo_wm_X3_67 : Cond.methodLink RX3 67 yX3_isIn ∈ mo_B := mo_tb2 51 rfl rfl
theorem mo_wi_yX3_isIn : Cond.static yX3_isIn ∈ mo_B := mo_tb2 52 rfl rfl
theorem mo_wc_yX3_isIn : Cond.code yX3_isIn cX3_isIn 2 (some .boolean) ∈ mo_B := mo_tb2 53 rfl rfl
theorem mo_wm_X3_121 : Cond.methodLink RX3 121 yX3_freestEscort ∈ mo_B := mo_tb2 54 rfl rfl
theorem mo_wi_yX3_freestEscort : Cond.instanceMethod yX3_freestEscort ∈ mo_B := mo_tb2 56 rfl rfl
theorem mo_wc_yX3_freestEscort : Cond.code yX3_freestEscort cX3_freestEscort 7 (some .int) ∈ mo_B := mo_tb2 57 rfl rfl
theorem mo_wm_X3_125 : Cond.methodLink RX3 125 yX3_firstVenue ∈ mo_B := mo_tb2 58 rfl rfl
theorem mo_wi_yX3_firstVenue : Cond.instanceMethod yX3_firstVenue ∈ mo_B := mo_tb2 60 rfl rfl
theorem mo_wc_yX3_firstVenue : Cond.code yX3_firstVenue cX3_firstVenue 5 (some .int) ∈ mo_B := mo_tb2 61 rfl rfl
theorem mo_wm_X3_76 : Cond.methodLink RX3 76 yX3_roomsLeft ∈ mo_B := mo_tb2 62 rfl rfl
theorem mo_wi_yX3_roomsLeft : Cond.instanceMethod yX3_roomsLeft ∈ mo_B := mo_tb2 63 rfl rfl
theorem mo_wl_yX3_roomsLeft : Cond.selects RX3 yX3_roomsLeft yX3_roomsLeft ∈ mo_B := mo_tb2 64 rfl rfl
theorem mo_wc_yX3_roomsLeft : Cond.code yX3_roomsLeft cX3_roomsLeft 4 (some .int) ∈ mo_B := mo_tb2 65 rfl rfl
theorem mo_wm_X3_117 : Cond.methodLink RX3 117 yX2_keepMeeting ∈ mo_B := mo_tb2 66 rfl rfl
theorem mo_wi_yX2_keepMeeting : Cond.instanceMethod yX2_keepMeeting ∈ mo_B := mo_tb2 67 rfl rfl
theorem mo_wl_yX2_keepMeeting : Cond.selects RX2 yX2_keepMeeting yX2_keepMeeting ∈ mo_B := mo_tb2 68 rfl rfl
theorem mo_wc_yX2_keepMeeting : Cond.code yX2_keepMeeting cX2_keepMeeting 7 (some .int) ∈ mo_B := mo_tb2 69 rfl rfl
theorem mo_wm_X2_71 : Cond.methodLink RX2 71 yX1_set ∈ mo_B := mo_tb2 70 rfl rfl
theorem mo_wm_X4_207 : Cond.methodLink RX4 207 yX2_settleWeek ∈ mo_B := mo_tb2 71 rfl rfl
theorem mo_wi_yX2_settleWeek : Cond.instanceMethod yX2_settleWeek ∈ mo_B := mo_tb2 72 rfl rfl
theorem mo_wl_yX2_settleWeek : Cond.selects RX2 yX2_settleWeek yX2_settleWeek ∈ mo_B := mo_tb2 73 rfl rfl
theorem mo_wc_yX2_settleWeek : Cond.code yX2_settleWeek cX2_settleWeek 4 (some .int) ∈ mo_B := mo_tb2 74 rfl rfl
theorem mo_wm_X2_110 : Cond.methodLink RX2 110 yX2_isOpen ∈ mo_B := mo_tb2 75 rfl rfl
theorem mo_wi_yX2_isOpen : Cond.instanceMethod yX2_isOpen ∈ mo_B := mo_tb2 76 rfl rfl
theorem mo_wl_yX2_isOpen : Cond.selects RX2 yX2_isOpen yX2_isOpen ∈ mo_B := mo_tb2 77 rfl rfl
theorem mo_wc_yX2_isOpen : Cond.code yX2_isOpen cX2_isOpen 2 (some .boolean) ∈ mo_B := mo_tb2 78 rfl rfl
theorem mo_wm_X2_114 : Cond.methodLink RX2 114 yX2_settle ∈ mo_B := mo_tb2 79 rfl rfl
theorem mo_wi_yX2_settle : Cond.instanceMethod yX2_settle ∈ mo_B := mo_tb2 80 rfl rfl
theorem mo_wl_yX2_settle : Cond.selects RX2 yX2_settle yX2_settle ∈ mo_B := mo_tb2 81 rfl rfl
theorem mo_wc_yX2_settle : Cond.code yX2_settle cX2_settle 4 none ∈ mo_B := mo_tb2 82 rfl rfl
theorem mo_wm_X2_107 : Cond.methodLink RX2 107 yX1_add ∈ mo_B := mo_tb2 83 rfl rfl
theorem mo_wm_X4_256 : Cond.methodLink RX4 256 yX2_debtOfAll ∈ mo_B := mo_tb2 84 rfl rfl
theorem mo_wi_yX2_debtOfAll : Cond.instanceMethod yX2_debtOfAll ∈ mo_B := mo_tb2 85 rfl rfl
theorem mo_wl_yX2_debtOfAll : Cond.selects RX2 yX2_debtOfAll yX2_debtOfAll ∈ mo_B := mo_tb2 86 rfl rfl
theorem mo_wc_yX2_debtOfAll : Cond.code yX2_debtOfAll cX2_debtOfAll 4 (some .int) ∈ mo_B := mo_tb2 87 rfl rfl
theorem mo_wm_X2_97 : Cond.methodLink RX2 97 yX2_debt ∈ mo_B := mo_tb2 88 rfl rfl
theorem mo_wm_X4_210 : Cond.methodLink RX4 210 yX2_beginNextWeek ∈ mo_B := mo_tb2 89 rfl rfl
theorem mo_wi_yX2_beginNextWeek : Cond.instanceMethod yX2_beginNextWeek ∈ mo_B := mo_tb2 90 rfl rfl
theorem mo_wl_yX2_beginNextWeek : Cond.selects RX2 yX2_beginNextWeek yX2_beginNextWeek ∈ mo_B := mo_tb2 91 rfl rfl
theorem mo_wc_yX2_beginNextWeek : Cond.code yX2_beginNextWeek cX2_beginNextWeek 3 none ∈ mo_B := mo_tb2 92 rfl rfl
theorem mo_wm_X2_104 : Cond.methodLink RX2 104 yX2_moveMeeting ∈ mo_B := mo_tb2 93 rfl rfl
theorem mo_wi_yX2_moveMeeting : Cond.instanceMethod yX2_moveMeeting ∈ mo_B := mo_tb2 94 rfl rfl
theorem mo_wl_yX2_moveMeeting : Cond.selects RX2 yX2_moveMeeting yX2_moveMeeting ∈ mo_B := mo_tb2 95 rfl rfl
theorem mo_wc_yX2_moveMeeting : Cond.code yX2_moveMeeting cX2_moveMeeting 4 none ∈ mo_B := mo_tb2 96 rfl rfl
theorem mo_wm_L_178 : Cond.methodLink RL 178 yX4_kept ∈ mo_B := mo_tb2 97 rfl rfl
theorem mo_wi_yX4_kept : Cond.instanceMethod yX4_kept ∈ mo_B := mo_tb2 98 rfl rfl
theorem mo_wl_yX4_kept : Cond.selects RX4 yX4_kept yX4_kept ∈ mo_B := mo_tb2 99 rfl rfl
theorem mo_wc_yX4_kept : Cond.code yX4_kept cX4_kept 3 (some .double) ∈ mo_B := mo_tb2 100 rfl rfl
theorem mo_wm_X4_252 : Cond.methodLink RX4 252 yX1_sum ∈ mo_B := mo_tb2 101 rfl rfl
theorem mo_wi_yX1_sum : Cond.instanceMethod yX1_sum ∈ mo_B := mo_tb2 102 rfl rfl
theorem mo_wl_yX1_sum : Cond.selects RX1 yX1_sum yX1_sum ∈ mo_B := mo_tb2 103 rfl rfl
theorem mo_wc_yX1_sum : Cond.code yX1_sum cX1_sum 3 (some .int) ∈ mo_B := mo_tb2 104 rfl rfl
theorem mo_wm_L_186 : Cond.methodLink RL 186 yX4_clearText ∈ mo_B := mo_tb2 105 rfl rfl
theorem mo_wi_yX4_clearText : Cond.instanceMethod yX4_clearText ∈ mo_B := mo_tb2 106 rfl rfl
theorem mo_wl_yX4_clearText : Cond.selects RX4 yX4_clearText yX4_clearText ∈ mo_B := mo_tb2 107 rfl rfl
theorem mo_wc_yX4_clearText : Cond.code yX4_clearText cX4_clearText 2 (some .int) ∈ mo_B := mo_tb2 108 rfl rfl
theorem mo_wm_L_190 : Cond.methodLink RL 190 yX4_carryOut ∈ mo_B := mo_tb2 109 rfl rfl
theorem mo_wi_yX4_carryOut : Cond.instanceMethod yX4_carryOut ∈ mo_B := mo_tb2 110 rfl rfl
theorem mo_wl_yX4_carryOut : Cond.selects RX4 yX4_carryOut yX4_carryOut ∈ mo_B := mo_tb2 111 rfl rfl
theorem mo_wc_yX4_carryOut : Cond.code yX4_carryOut cX4_carryOut 3 (some .int) ∈ mo_B := mo_tb2 112 rfl rfl
theorem mo_wm_X4_283 : Cond.methodLink RX4 283 yX0_readAll ∈ mo_B := mo_tb2 113 rfl rfl
theorem mo_wi_yX0_readAll : Cond.instanceMethod yX0_readAll ∈ mo_B := mo_tb2 114 rfl rfl
theorem mo_wl_yX0_readAll : Cond.selects RX0 yX0_readAll yX0_readAll ∈ mo_B := mo_tb2 115 rfl rfl
theorem mo_wc_yX0_readAll : Cond.code yX0_readAll cX0_readAll 2 (some .int) ∈ mo_B := mo_tb2 116 rfl rfl
theorem mo_wm_X0_46 : Cond.methodLink RX0 46 yX0_readOrder ∈ mo_B := mo_tb2 117 rfl rfl
theorem mo_wi_yX0_readOrder : Cond.instanceMethod yX0_readOrder ∈ mo_B := mo_tb2 119 rfl rfl
theorem mo_wc_yX0_readOrder : Cond.code yX0_readOrder cX0_readOrder 2 (some .boolean) ∈ mo_B := mo_tb2 120 rfl rfl
theorem mo_wm_X0_54 : Cond.methodLink RX0 54 yX0_byteHere ∈ mo_B := mo_tb2 121 rfl rfl
theorem mo_wi_yX0_byteHere : Cond.instanceMethod yX0_byteHere ∈ mo_B := mo_tb2 123 rfl rfl
theorem mo_wc_yX0_byteHere : Cond.code yX0_byteHere cX0_byteHere 1 (some .int) ∈ mo_B := mo_tb2 124 rfl rfl
theorem mo_wm_X0_68 : Cond.methodLink RX0 68 yX1_get ∈ mo_B := mo_tb2 125 rfl rfl
theorem mo_wm_X0_36 : Cond.methodLink RX0 36 yX1_set ∈ mo_B := mo_tb2 126 rfl rfl
theorem mo_wm_X0_58 : Cond.methodLink RX0 58 yX0_readDigit ∈ mo_B := mo_tb2 127 rfl rfl
theorem mo_wi_yX0_readDigit : Cond.instanceMethod yX0_readDigit ∈ mo_B := mo_tb2 129 rfl rfl
theorem mo_wc_yX0_readDigit : Cond.code yX0_readDigit cX0_readDigit 3 (some .boolean) ∈ mo_B := mo_tb2 130 rfl rfl
theorem mo_wm_X0_65 : Cond.methodLink RX0 65 yX0_isDigitHere ∈ mo_B := mo_tb2 131 rfl rfl
theorem mo_wi_yX0_isDigitHere : Cond.instanceMethod yX0_isDigitHere ∈ mo_B := mo_tb2 133 rfl rfl
theorem mo_wc_yX0_isDigitHere : Cond.code yX0_isDigitHere cX0_isDigitHere 1 (some .boolean) ∈ mo_B := mo_tb2 134 rfl rfl
theorem mo_wm_X0_62 : Cond.methodLink RX0 62 yX0_readNumber ∈ mo_B := mo_tb2 135 rfl rfl
theorem mo_wi_yX0_readNumber : Cond.instanceMethod yX0_readNumber ∈ mo_B := mo_tb2 137 rfl rfl
theorem mo_wc_yX0_readNumber : Cond.code yX0_readNumber cX0_readNumber 5 (some .boolean) ∈ mo_B := mo_tb2 138 rfl rfl
theorem mo_wm_X0_50 : Cond.methodLink RX0 50 yX0_readSign ∈ mo_B := mo_tb2 139 rfl rfl
theorem mo_wi_yX0_readSign : Cond.instanceMethod yX0_readSign ∈ mo_B := mo_tb2 141 rfl rfl
theorem mo_wc_yX0_readSign : Cond.code yX0_readSign cX0_readSign 2 (some .boolean) ∈ mo_B := mo_tb2 142 rfl rfl
theorem mo_wm_X4_63 : Cond.methodLink RX4 63 yX4_save ∈ mo_B := mo_tb2 143 rfl rfl
theorem mo_wi_yX4_save : Cond.instanceMethod yX4_save ∈ mo_B := mo_tb2 145 rfl rfl
theorem mo_wc_yX4_save : Cond.code yX4_save cX4_save 3 none ∈ mo_B := mo_tb2 146 rfl rfl
theorem mo_wm_X4_97 : Cond.methodLink RX4 97 yX1_get ∈ mo_B := mo_tb2 147 rfl rfl
theorem mo_wm_X4_301 : Cond.methodLink RX4 301 yX4_carryOutOne ∈ mo_B := mo_tb2 148 rfl rfl
theorem mo_wi_yX4_carryOutOne : Cond.instanceMethod yX4_carryOutOne ∈ mo_B := mo_tb2 150 rfl rfl
theorem mo_wc_yX4_carryOutOne : Cond.code yX4_carryOutOne cX4_carryOutOne 5 (some .boolean) ∈ mo_B := mo_tb2 151 rfl rfl
theorem mo_wm_X4_70 : Cond.methodLink RX4 70 yX2_hasOrder ∈ mo_B := mo_tb2 152 rfl rfl
theorem mo_wi_yX2_hasOrder : Cond.instanceMethod yX2_hasOrder ∈ mo_B := mo_tb2 153 rfl rfl
theorem mo_wl_yX2_hasOrder : Cond.selects RX2 yX2_hasOrder yX2_hasOrder ∈ mo_B := mo_tb2 154 rfl rfl
theorem mo_wc_yX2_hasOrder : Cond.code yX2_hasOrder cX2_hasOrder 2 (some .boolean) ∈ mo_B := mo_tb2 155 rfl rfl
theorem mo_wm_X4_78 : Cond.methodLink RX4 78 yX4_mayChange ∈ mo_B := mo_tb2 156 rfl rfl
theorem mo_wi_yX4_mayChange : Cond.instanceMethod yX4_mayChange ∈ mo_B := mo_tb2 158 rfl rfl
theorem mo_wc_yX4_mayChange : Cond.code yX4_mayChange cX4_mayChange 3 (some .boolean) ∈ mo_B := mo_tb2 159 rfl rfl
theorem mo_wm_X4_145 : Cond.methodLink RX4 145 yX4_isWeek ∈ mo_B := mo_tb2 160 rfl rfl
theorem mo_wi_yX4_isWeek : Cond.static yX4_isWeek ∈ mo_B := mo_tb2 161 rfl rfl
theorem mo_wc_yX4_isWeek : Cond.code yX4_isWeek cX4_isWeek 1 (some .boolean) ∈ mo_B := mo_tb2 162 rfl rfl
theorem mo_wm_X4_164 : Cond.methodLink RX4 164 yX2_isOver ∈ mo_B := mo_tb2 163 rfl rfl
theorem mo_wi_yX2_isOver : Cond.instanceMethod yX2_isOver ∈ mo_B := mo_tb2 164 rfl rfl
theorem mo_wl_yX2_isOver : Cond.selects RX2 yX2_isOver yX2_isOver ∈ mo_B := mo_tb2 165 rfl rfl
theorem mo_wc_yX2_isOver : Cond.code yX2_isOver cX2_isOver 2 (some .boolean) ∈ mo_B := mo_tb2 166 rfl rfl
theorem mo_wm_X4_41 : Cond.methodLink RX4 41 yX4_isHours ∈ mo_B := mo_tb2 167 rfl rfl
theorem mo_wi_yX4_isHours : Cond.static yX4_isHours ∈ mo_B := mo_tb2 168 rfl rfl
theorem mo_wc_yX4_isHours : Cond.code yX4_isHours cX4_isHours 1 (some .boolean) ∈ mo_B := mo_tb2 169 rfl rfl
theorem mo_wm_X4_87 : Cond.methodLink RX4 87 yX2_setHoursFrom ∈ mo_B := mo_tb2 170 rfl rfl
theorem mo_wi_yX2_setHoursFrom : Cond.instanceMethod yX2_setHoursFrom ∈ mo_B := mo_tb2 171 rfl rfl
theorem mo_wl_yX2_setHoursFrom : Cond.selects RX2 yX2_setHoursFrom yX2_setHoursFrom ∈ mo_B := mo_tb2 172 rfl rfl
theorem mo_wc_yX2_setHoursFrom : Cond.code yX2_setHoursFrom cX2_setHoursFrom 5 none ∈ mo_B := mo_tb2 173 rfl rfl
theorem mo_wm_X4_333 : Cond.methodLink RX4 333 yX4_settleIfOpen ∈ mo_B := mo_tb2 174 rfl rfl
theorem mo_wi_yX4_settleIfOpen : Cond.instanceMethod yX4_settleIfOpen ∈ mo_B := mo_tb2 176 rfl rfl
theorem mo_wc_yX4_settleIfOpen : Cond.code yX4_settleIfOpen cX4_settleIfOpen 4 (some .boolean) ∈ mo_B := mo_tb2 177 rfl rfl
theorem mo_wm_X4_173 : Cond.methodLink RX4 173 yX2_placeOf ∈ mo_B := mo_tb2 178 rfl rfl
theorem mo_wi_yX2_placeOf : Cond.instanceMethod yX2_placeOf ∈ mo_B := mo_tb2 179 rfl rfl
theorem mo_wl_yX2_placeOf : Cond.selects RX2 yX2_placeOf yX2_placeOf ∈ mo_B := mo_tb2 180 rfl rfl
theorem mo_wc_yX2_placeOf : Cond.code yX2_placeOf cX2_placeOf 3 (some .int) ∈ mo_B := mo_tb2 181 rfl rfl
theorem mo_wm_X4_187 : Cond.methodLink RX4 187 yX2_isOpen ∈ mo_B := mo_tb2 182 rfl rfl
theorem mo_wm_X4_192 : Cond.methodLink RX4 192 yX2_settle ∈ mo_B := mo_tb2 183 rfl rfl
theorem mo_wm_X4_201 : Cond.methodLink RX4 201 yX2_isLastWeek ∈ mo_B := mo_tb2 184 rfl rfl
theorem mo_wi_yX2_isLastWeek : Cond.instanceMethod yX2_isLastWeek ∈ mo_B := mo_tb2 185 rfl rfl
theorem mo_wl_yX2_isLastWeek : Cond.selects RX2 yX2_isLastWeek yX2_isLastWeek ∈ mo_B := mo_tb2 186 rfl rfl
theorem mo_wc_yX2_isLastWeek : Cond.code yX2_isLastWeek cX2_isLastWeek 1 (some .boolean) ∈ mo_B := mo_tb2 187 rfl rfl
theorem mo_wm_L_197 : Cond.methodLink RL 197 yX4_digest ∈ mo_B := mo_tb2 188 rfl rfl
theorem mo_wi_yX4_digest : Cond.instanceMethod yX4_digest ∈ mo_B := mo_tb2 189 rfl rfl
theorem mo_wl_yX4_digest : Cond.selects RX4 yX4_digest yX4_digest ∈ mo_B := mo_tb2 190 rfl rfl
theorem mo_wc_yX4_digest : Cond.code yX4_digest cX4_digest 5 (some .long) ∈ mo_B := mo_tb2 191 rfl rfl
theorem mo_wk_X4_307 : Cond.constantLong RX4 307 (Int64.ofInt 115909) ∈ mo_B := mo_tb2 192 rfl rfl
theorem mo_wk_X4_309 : Cond.constantLong RX4 309 (Int64.ofInt 31) ∈ mo_B := mo_tb2 193 rfl rfl
theorem mo_wm_X4_311 : Cond.methodLink RX4 311 yX4_value ∈ mo_B := mo_tb2 194 rfl rfl
theorem mo_wi_yX4_value : Cond.instanceMethod yX4_value ∈ mo_B := mo_tb2 195 rfl rfl
theorem mo_wl_yX4_value : Cond.selects RX4 yX4_value yX4_value ∈ mo_B := mo_tb2 196 rfl rfl
theorem mo_wc_yX4_value : Cond.code yX4_value cX4_value 2 (some .int) ∈ mo_B := mo_tb2 197 rfl rfl
theorem mo_wq_X4_48 : Cond.classLink RX4 48 "java/lang/IllegalArgumentException" ∈ mo_B := mo_tb2 198 rfl rfl
theorem mo_wm_X4_314 : Cond.methodLink RX4 314 yX4_digestOfOrder ∈ mo_B := mo_tb3 26 rfl rfl
theorem mo_wi_yX4_digestOfOrder : Cond.instanceMethod yX4_digestOfOrder ∈ mo_B := mo_tb3 28 rfl rfl
theorem mo_wc_yX4_digestOfOrder : Cond.code yX4_digestOfOrder cX4_digestOfOrder 7 (some .long) ∈ mo_B := mo_tb3 29 rfl rfl
theorem mo_wm_X4_330 : Cond.methodLink RX4 330 yX4_order ∈ mo_B := mo_tb3 30 rfl rfl
theorem mo_wi_yX4_order : Cond.instanceMethod yX4_order ∈ mo_B := mo_tb3 31 rfl rfl
theorem mo_wl_yX4_order : Cond.selects RX4 yX4_order yX4_order ∈ mo_B := mo_tb3 32 rfl rfl
theorem mo_wc_yX4_order : Cond.code yX4_order cX4_order 3 (some .int) ∈ mo_B := mo_tb3 33 rfl rfl
theorem mo_wq_X4_73 : Cond.classLink RX4 73 "java/lang/IndexOutOfBoundsException" ∈ mo_B := mo_tb3 34 rfl rfl
theorem mo_wm_X4_84 : Cond.methodLink RX4 84 yX2_hoursIn ∈ mo_B := mo_tb3 50 rfl rfl
theorem mo_wm_X4_219 : Cond.methodLink RX4 219 yX2_plannedUpTo ∈ mo_B := mo_tb3 51 rfl rfl
theorem mo_wm_X4_198 : Cond.methodLink RX4 198 yX2_debt ∈ mo_B := mo_tb3 52 rfl rfl
theorem mo_wm_X4_222 : Cond.methodLink RX4 222 yX2_hoursUpTo ∈ mo_B := mo_tb3 53 rfl rfl
theorem mo_wm_X4_318 : Cond.methodLink RX4 318 yX4_escort ∈ mo_B := mo_tb3 54 rfl rfl
theorem mo_wi_yX4_escort : Cond.instanceMethod yX4_escort ∈ mo_B := mo_tb3 55 rfl rfl
theorem mo_wl_yX4_escort : Cond.selects RX4 yX4_escort yX4_escort ∈ mo_B := mo_tb3 56 rfl rfl
theorem mo_wc_yX4_escort : Cond.code yX4_escort cX4_escort 3 (some .int) ∈ mo_B := mo_tb3 57 rfl rfl
theorem mo_wm_X4_120 : Cond.methodLink RX4 120 yX2_hasEscort ∈ mo_B := mo_tb3 58 rfl rfl
theorem mo_wi_yX2_hasEscort : Cond.instanceMethod yX2_hasEscort ∈ mo_B := mo_tb3 59 rfl rfl
theorem mo_wl_yX2_hasEscort : Cond.selects RX2 yX2_hasEscort yX2_hasEscort ∈ mo_B := mo_tb3 60 rfl rfl
theorem mo_wc_yX2_hasEscort : Cond.code yX2_hasEscort cX2_hasEscort 2 (some .boolean) ∈ mo_B := mo_tb3 61 rfl rfl
theorem mo_wm_X4_230 : Cond.methodLink RX4 230 yX2_meetingsWith ∈ mo_B := mo_tb3 63 rfl rfl
theorem mo_wi_yX2_meetingsWith : Cond.instanceMethod yX2_meetingsWith ∈ mo_B := mo_tb3 64 rfl rfl
theorem mo_wl_yX2_meetingsWith : Cond.selects RX2 yX2_meetingsWith yX2_meetingsWith ∈ mo_B := mo_tb3 65 rfl rfl
theorem mo_wc_yX2_meetingsWith : Cond.code yX2_meetingsWith cX2_meetingsWith 5 (some .int) ∈ mo_B := mo_tb3 66 rfl rfl
theorem mo_wm_X2_100 : Cond.methodLink RX2 100 yX2_takesPlaceIn ∈ mo_B := mo_tb3 67 rfl rfl
theorem mo_wm_X4_324 : Cond.methodLink RX4 324 yX4_digestOfMeeting ∈ mo_B := mo_tb3 68 rfl rfl
theorem mo_wi_yX4_digestOfMeeting : Cond.instanceMethod yX4_digestOfMeeting ∈ mo_B := mo_tb3 70 rfl rfl
theorem mo_wc_yX4_digestOfMeeting : Cond.code yX4_digestOfMeeting cX4_digestOfMeeting 7 (some .long) ∈ mo_B := mo_tb3 71 rfl rfl
theorem mo_wm_X4_178 : Cond.methodLink RX4 178 yX2_fact ∈ mo_B := mo_tb3 72 rfl rfl
theorem mo_wm_X4_327 : Cond.methodLink RX4 327 yX4_settledIn ∈ mo_B := mo_tb3 73 rfl rfl
theorem mo_wm_L_97 : Cond.methodLink RL 97 yL_addOrder ∈ mo_B := mo_tb3 74 rfl rfl
theorem mo_wi_yL_addOrder : Cond.static yL_addOrder ∈ mo_B := mo_tb3 75 rfl rfl
theorem mo_wh_yL_addOrder : Cond.codeWith yL_addOrder cL_addOrder 5 (some .int) [(0, 10, 13, 13), (0, 10, 17, 15)] ∈ mo_B := mo_tb3 76 rfl rfl
theorem mo_wq_L_13 : Cond.classLink RL 13 "java/lang/IllegalArgumentException" ∈ mo_B := mo_tb3 77 rfl rfl
theorem mo_wq_L_15 : Cond.classLink RL 15 "java/lang/IllegalStateException" ∈ mo_B := mo_tb3 78 rfl rfl
theorem mo_wm_L_7 : Cond.methodLink RL 7 yX4_addOrder ∈ mo_B := mo_tb3 79 rfl rfl
theorem mo_wi_yX4_addOrder : Cond.instanceMethod yX4_addOrder ∈ mo_B := mo_tb3 80 rfl rfl
theorem mo_wl_yX4_addOrder : Cond.selects RX4 yX4_addOrder yX4_addOrder ∈ mo_B := mo_tb3 81 rfl rfl
theorem mo_wc_yX4_addOrder : Cond.code yX4_addOrder cX4_addOrder 3 (some .int) ∈ mo_B := mo_tb3 82 rfl rfl
theorem mo_wm_X4_45 : Cond.methodLink RX4 45 yX2_hasAllVenues ∈ mo_B := mo_tb3 83 rfl rfl
theorem mo_wi_yX2_hasAllVenues : Cond.instanceMethod yX2_hasAllVenues ∈ mo_B := mo_tb3 84 rfl rfl
theorem mo_wl_yX2_hasAllVenues : Cond.selects RX2 yX2_hasAllVenues yX2_hasAllVenues ∈ mo_B := mo_tb3 85 rfl rfl
theorem mo_wc_yX2_hasAllVenues : Cond.code yX2_hasAllVenues cX2_hasAllVenues 2 (some .boolean) ∈ mo_B := mo_tb3 86 rfl rfl
theorem mo_wq_X4_58 : Cond.classLink RX4 58 "java/lang/IllegalStateException" ∈ mo_B := mo_tb3 88 rfl rfl
theorem mo_wm_X4_66 : Cond.methodLink RX4 66 yX2_enterOrder ∈ mo_B := mo_tb3 104 rfl rfl
theorem mo_wi_yX2_enterOrder : Cond.instanceMethod yX2_enterOrder ∈ mo_B := mo_tb3 105 rfl rfl
theorem mo_wl_yX2_enterOrder : Cond.selects RX2 yX2_enterOrder yX2_enterOrder ∈ mo_B := mo_tb3 106 rfl rfl
theorem mo_wc_yX2_enterOrder : Cond.code yX2_enterOrder cX2_enterOrder 4 (some .int) ∈ mo_B := mo_tb3 107 rfl rfl
theorem mo_wm_X2_67 : Cond.methodLink RX2 67 yX2_setHoursFrom ∈ mo_B := mo_tb3 108 rfl rfl
theorem mo_wm_L_106 : Cond.methodLink RL 106 yL_change ∈ mo_B := mo_tb3 109 rfl rfl
theorem mo_wi_yL_change : Cond.static yL_change ∈ mo_B := mo_tb3 110 rfl rfl
theorem mo_wh_yL_change : Cond.codeWith yL_change cL_change 6 (some .int) [(0, 12, 15, 21), (0, 12, 19, 13)] ∈ mo_B := mo_tb3 111 rfl rfl
theorem mo_wq_L_21 : Cond.classLink RL 21 "java/lang/IndexOutOfBoundsException" ∈ mo_B := mo_tb3 112 rfl rfl
theorem mo_wm_L_17 : Cond.methodLink RL 17 yX4_change ∈ mo_B := mo_tb3 113 rfl rfl
theorem mo_wi_yX4_change : Cond.instanceMethod yX4_change ∈ mo_B := mo_tb3 114 rfl rfl
theorem mo_wl_yX4_change : Cond.selects RX4 yX4_change yX4_change ∈ mo_B := mo_tb3 115 rfl rfl
theorem mo_wc_yX4_change : Cond.code yX4_change cX4_change 5 (some .int) ∈ mo_B := mo_tb3 116 rfl rfl
theorem mo_wm_L_110 : Cond.methodLink RL 110 yL_allow ∈ mo_B := mo_tb3 118 rfl rfl
theorem mo_wi_yL_allow : Cond.static yL_allow ∈ mo_B := mo_tb3 119 rfl rfl
theorem mo_wh_yL_allow : Cond.codeWith yL_allow cL_allow 5 (some .int) [(0, 10, 13, 21), (0, 10, 17, 13)] ∈ mo_B := mo_tb3 120 rfl rfl
theorem mo_wm_L_23 : Cond.methodLink RL 23 yX4_allow ∈ mo_B := mo_tb3 121 rfl rfl
theorem mo_wi_yX4_allow : Cond.instanceMethod yX4_allow ∈ mo_B := mo_tb3 122 rfl rfl
theorem mo_wl_yX4_allow : Cond.selects RX4 yX4_allow yX4_allow ∈ mo_B := mo_tb3 123 rfl rfl
theorem mo_wc_yX4_allow : Cond.code yX4_allow cX4_allow 4 (some .int) ∈ mo_B := mo_tb3 124 rfl rfl
theorem mo_wm_X4_103 : Cond.methodLink RX4 103 yX1_set ∈ mo_B := mo_tb3 126 rfl rfl
theorem mo_wm_L_113 : Cond.methodLink RL 113 yL_addEscort ∈ mo_B := mo_tb3 127 rfl rfl
theorem mo_wi_yL_addEscort : Cond.static yL_addEscort ∈ mo_B := mo_tb3 128 rfl rfl
theorem mo_wh_yL_addEscort : Cond.codeWith yL_addEscort cL_addEscort 5 (some .int) [(0, 10, 13, 13), (0, 10, 17, 15)] ∈ mo_B := mo_tb3 129 rfl rfl
theorem mo_wm_L_26 : Cond.methodLink RL 26 yX4_addEscort ∈ mo_B := mo_tb3 130 rfl rfl
theorem mo_wi_yX4_addEscort : Cond.instanceMethod yX4_addEscort ∈ mo_B := mo_tb3 131 rfl rfl
theorem mo_wl_yX4_addEscort : Cond.selects RX4 yX4_addEscort yX4_addEscort ∈ mo_B := mo_tb3 132 rfl rfl
theorem mo_wc_yX4_addEscort : Cond.code yX4_addEscort cX4_addEscort 3 (some .int) ∈ mo_B := mo_tb3 133 rfl rfl
theorem mo_wm_X4_107 : Cond.methodLink RX4 107 yX4_isSetOfSlots ∈ mo_B := mo_tb3 134 rfl rfl
theorem mo_wi_yX4_isSetOfSlots : Cond.static yX4_isSetOfSlots ∈ mo_B := mo_tb3 135 rfl rfl
theorem mo_wc_yX4_isSetOfSlots : Cond.code yX4_isSetOfSlots cX4_isSetOfSlots 1 (some .boolean) ∈ mo_B := mo_tb3 136 rfl rfl
theorem mo_wk_X4_340 : Cond.constant RX4 340 (Int32.ofInt 268435455) ∈ mo_B := mo_tb3 137 rfl rfl
theorem mo_wm_X4_117 : Cond.methodLink RX4 117 yX2_enterEscort ∈ mo_B := mo_tb3 140 rfl rfl
theorem mo_wi_yX2_enterEscort : Cond.instanceMethod yX2_enterEscort ∈ mo_B := mo_tb3 141 rfl rfl
theorem mo_wl_yX2_enterEscort : Cond.selects RX2 yX2_enterEscort yX2_enterEscort ∈ mo_B := mo_tb3 142 rfl rfl
theorem mo_wc_yX2_enterEscort : Cond.code yX2_enterEscort cX2_enterEscort 4 (some .int) ∈ mo_B := mo_tb3 143 rfl rfl
theorem mo_wm_L_116 : Cond.methodLink RL 116 yL_setSlots ∈ mo_B := mo_tb3 144 rfl rfl
theorem mo_wi_yL_setSlots : Cond.static yL_setSlots ∈ mo_B := mo_tb3 145 rfl rfl
theorem mo_wh_yL_setSlots : Cond.codeWith yL_setSlots cL_setSlots 5 (some .int) [(0, 10, 13, 21), (0, 10, 17, 13)] ∈ mo_B := mo_tb3 146 rfl rfl
theorem mo_wm_L_29 : Cond.methodLink RL 29 yX4_setSlots ∈ mo_B := mo_tb3 147 rfl rfl
theorem mo_wi_yX4_setSlots : Cond.instanceMethod yX4_setSlots ∈ mo_B := mo_tb3 148 rfl rfl
theorem mo_wl_yX4_setSlots : Cond.selects RX4 yX4_setSlots yX4_setSlots ∈ mo_B := mo_tb3 149 rfl rfl
theorem mo_wc_yX4_setSlots : Cond.code yX4_setSlots cX4_setSlots 4 (some .int) ∈ mo_B := mo_tb3 150 rfl rfl
theorem mo_wm_L_119 : Cond.methodLink RL 119 yL_addVenue ∈ mo_B := mo_tb3 152 rfl rfl
theorem mo_wi_yL_addVenue : Cond.static yL_addVenue ∈ mo_B := mo_tb3 153 rfl rfl
theorem mo_wh_yL_addVenue : Cond.codeWith yL_addVenue cL_addVenue 4 (some .int) [(0, 9, 12, 13), (0, 9, 15, 15)] ∈ mo_B := mo_tb3 154 rfl rfl
theorem mo_wm_L_32 : Cond.methodLink RL 32 yX4_addVenue ∈ mo_B := mo_tb3 155 rfl rfl
theorem mo_wi_yX4_addVenue : Cond.instanceMethod yX4_addVenue ∈ mo_B := mo_tb3 156 rfl rfl
theorem mo_wl_yX4_addVenue : Cond.selects RX4 yX4_addVenue yX4_addVenue ∈ mo_B := mo_tb3 157 rfl rfl
theorem mo_wc_yX4_addVenue : Cond.code yX4_addVenue cX4_addVenue 2 (some .int) ∈ mo_B := mo_tb3 158 rfl rfl
theorem mo_wm_X4_137 : Cond.methodLink RX4 137 yX2_enterVenue ∈ mo_B := mo_tb3 161 rfl rfl
theorem mo_wi_yX2_enterVenue : Cond.instanceMethod yX2_enterVenue ∈ mo_B := mo_tb3 162 rfl rfl
theorem mo_wl_yX2_enterVenue : Cond.selects RX2 yX2_enterVenue yX2_enterVenue ∈ mo_B := mo_tb3 163 rfl rfl
theorem mo_wc_yX2_enterVenue : Cond.code yX2_enterVenue cX2_enterVenue 3 (some .int) ∈ mo_B := mo_tb3 164 rfl rfl
theorem mo_wm_L_123 : Cond.methodLink RL 123 yL_plan ∈ mo_B := mo_tb3 165 rfl rfl
theorem mo_wi_yL_plan : Cond.static yL_plan ∈ mo_B := mo_tb3 166 rfl rfl
theorem mo_wh_yL_plan : Cond.codeWith yL_plan cL_plan 8 (some .int) [(0, 16, 19, 21), (0, 16, 23, 13), (0, 16, 27, 15)] ∈ mo_B := mo_tb3 167 rfl rfl
theorem mo_wm_L_36 : Cond.methodLink RL 36 yX4_plan ∈ mo_B := mo_tb3 168 rfl rfl
theorem mo_wi_yX4_plan : Cond.instanceMethod yX4_plan ∈ mo_B := mo_tb3 169 rfl rfl
theorem mo_wl_yX4_plan : Cond.selects RX4 yX4_plan yX4_plan ∈ mo_B := mo_tb3 170 rfl rfl
theorem mo_wc_yX4_plan : Cond.code yX4_plan cX4_plan 6 (some .int) ∈ mo_B := mo_tb3 171 rfl rfl
theorem mo_wm_X4_140 : Cond.methodLink RX4 140 yX2_hasVenue ∈ mo_B := mo_tb3 172 rfl rfl
theorem mo_wi_yX2_hasVenue : Cond.instanceMethod yX2_hasVenue ∈ mo_B := mo_tb3 173 rfl rfl
theorem mo_wl_yX2_hasVenue : Cond.selects RX2 yX2_hasVenue yX2_hasVenue ∈ mo_B := mo_tb3 174 rfl rfl
theorem mo_wc_yX2_hasVenue : Cond.code yX2_hasVenue cX2_hasVenue 2 (some .boolean) ∈ mo_B := mo_tb3 175 rfl rfl
theorem mo_wm_X4_148 : Cond.methodLink RX4 148 yX4_isSlot ∈ mo_B := mo_tb3 177 rfl rfl
theorem mo_wi_yX4_isSlot : Cond.static yX4_isSlot ∈ mo_B := mo_tb3 178 rfl rfl
theorem mo_wc_yX4_isSlot : Cond.code yX4_isSlot cX4_isSlot 1 (some .boolean) ∈ mo_B := mo_tb3 179 rfl rfl
theorem mo_wm_X4_153 : Cond.methodLink RX4 153 yX4_reasonAgainst ∈ mo_B := mo_tb3 181 rfl rfl
theorem mo_wi_yX4_reasonAgainst : Cond.instanceMethod yX4_reasonAgainst ∈ mo_B := mo_tb3 183 rfl rfl
theorem mo_wc_yX4_reasonAgainst : Cond.code yX4_reasonAgainst cX4_reasonAgainst 7 (some .int) ∈ mo_B := mo_tb3 184 rfl rfl
theorem mo_wm_X4_238 : Cond.methodLink RX4 238 yX3_open ∈ mo_B := mo_tb3 185 rfl rfl
theorem mo_wm_X4_336 : Cond.methodLink RX4 336 yX3_conflict ∈ mo_B := mo_tb3 186 rfl rfl
theorem mo_wi_yX3_conflict : Cond.instanceMethod yX3_conflict ∈ mo_B := mo_tb3 187 rfl rfl
theorem mo_wl_yX3_conflict : Cond.selects RX3 yX3_conflict yX3_conflict ∈ mo_B := mo_tb3 188 rfl rfl
theorem mo_wc_yX3_conflict : Cond.code yX3_conflict cX3_conflict 6 (some .int) ∈ mo_B := mo_tb3 189 rfl rfl
theorem mo_wm_X4_259 : Cond.methodLink RX4 259 yX2_isFull ∈ mo_B := mo_tb3 190 rfl rfl
theorem mo_wm_X4_159 : Cond.methodLink RX4 159 yX2_keepMeeting ∈ mo_B := mo_tb3 192 rfl rfl
theorem mo_wm_L_127 : Cond.methodLink RL 127 yL_planWeek ∈ mo_B := mo_tb3 193 rfl rfl
theorem mo_wi_yL_planWeek : Cond.static yL_planWeek ∈ mo_B := mo_tb3 194 rfl rfl
theorem mo_wh_yL_planWeek : Cond.codeWith yL_planWeek cL_planWeek 4 (some .int) [(0, 9, 12, 13), (0, 9, 15, 15)] ∈ mo_B := mo_tb3 195 rfl rfl
theorem mo_wm_L_40 : Cond.methodLink RL 40 yX4_planWeek ∈ mo_B := mo_tb3 196 rfl rfl
theorem mo_wi_yX4_planWeek : Cond.instanceMethod yX4_planWeek ∈ mo_B := mo_tb3 197 rfl rfl
theorem mo_wl_yX4_planWeek : Cond.selects RX4 yX4_planWeek yX4_planWeek ∈ mo_B := mo_tb3 198 rfl rfl
theorem mo_wc_yX4_planWeek : Cond.code yX4_planWeek cX4_planWeek 2 (some .int) ∈ mo_B := mo_tb3 199 rfl rfl
theorem mo_wm_L_130 : Cond.methodLink RL 130 yL_cancel ∈ mo_B := mo_tb3 202 rfl rfl
theorem mo_wi_yL_cancel : Cond.static yL_cancel ∈ mo_B := mo_tb3 203 rfl rfl
theorem mo_wh_yL_cancel : Cond.codeWith yL_cancel cL_cancel 4 (some .int) [(0, 9, 12, 21), (0, 9, 15, 15)] ∈ mo_B := mo_tb3 204 rfl rfl
theorem mo_wm_L_43 : Cond.methodLink RL 43 yX4_cancel ∈ mo_B := mo_tb3 205 rfl rfl
theorem mo_wi_yX4_cancel : Cond.instanceMethod yX4_cancel ∈ mo_B := mo_tb3 206 rfl rfl
theorem mo_wl_yX4_cancel : Cond.selects RX4 yX4_cancel yX4_cancel ∈ mo_B := mo_tb3 207 rfl rfl
theorem mo_wc_yX4_cancel : Cond.code yX4_cancel cX4_cancel 4 (some .int) ∈ mo_B := mo_tb3 208 rfl rfl
theorem mo_wm_X4_183 : Cond.methodLink RX4 183 yX2_dropMeeting ∈ mo_B := mo_tb3 211 rfl rfl
theorem mo_wi_yX2_dropMeeting : Cond.instanceMethod yX2_dropMeeting ∈ mo_B := mo_tb3 212 rfl rfl
theorem mo_wl_yX2_dropMeeting : Cond.selects RX2 yX2_dropMeeting yX2_dropMeeting ∈ mo_B := mo_tb3 213 rfl rfl
theorem mo_wc_yX2_dropMeeting : Cond.code yX2_dropMeeting cX2_dropMeeting 3 none ∈ mo_B := mo_tb3 214 rfl rfl
theorem mo_wm_L_133 : Cond.methodLink RL 133 yL_tell ∈ mo_B := mo_tb3 215 rfl rfl
theorem mo_wi_yL_tell : Cond.static yL_tell ∈ mo_B := mo_tb3 216 rfl rfl
theorem mo_wh_yL_tell : Cond.codeWith yL_tell cL_tell 5 (some .int) [(0, 10, 13, 21), (0, 10, 17, 15)] ∈ mo_B := mo_tb3 217 rfl rfl
theorem mo_wm_L_46 : Cond.methodLink RL 46 yX4_tell ∈ mo_B := mo_tb3 218 rfl rfl
theorem mo_wi_yX4_tell : Cond.instanceMethod yX4_tell ∈ mo_B := mo_tb3 219 rfl rfl
theorem mo_wl_yX4_tell : Cond.selects RX4 yX4_tell yX4_tell ∈ mo_B := mo_tb3 220 rfl rfl
theorem mo_wc_yX4_tell : Cond.code yX4_tell cX4_tell 4 (some .int) ∈ mo_B := mo_tb3 221 rfl rfl
theorem mo_wm_L_137 : Cond.methodLink RL 137 yL_endWeek ∈ mo_B := mo_tb3 223 rfl rfl
theorem mo_wi_yL_endWeek : Cond.static yL_endWeek ∈ mo_B := mo_tb3 224 rfl rfl
theorem mo_wh_yL_endWeek : Cond.codeWith yL_endWeek cL_endWeek 3 (some .int) [(0, 8, 11, 15)] ∈ mo_B := mo_tb3 225 rfl rfl
theorem mo_wm_L_50 : Cond.methodLink RL 50 yX4_endWeek ∈ mo_B := mo_tb3 226 rfl rfl
theorem mo_wi_yX4_endWeek : Cond.instanceMethod yX4_endWeek ∈ mo_B := mo_tb3 227 rfl rfl
theorem mo_wl_yX4_endWeek : Cond.selects RX4 yX4_endWeek yX4_endWeek ∈ mo_B := mo_tb3 228 rfl rfl
theorem mo_wc_yX4_endWeek : Cond.code yX4_endWeek cX4_endWeek 2 (some .int) ∈ mo_B := mo_tb3 229 rfl rfl
theorem mo_wm_L_141 : Cond.methodLink RL 141 yL_order ∈ mo_B := mo_tb3 231 rfl rfl
theorem mo_wi_yL_order : Cond.static yL_order ∈ mo_B := mo_tb3 232 rfl rfl
theorem mo_wh_yL_order : Cond.codeWith yL_order cL_order 5 (some .int) [(0, 10, 13, 21), (0, 10, 17, 13)] ∈ mo_B := mo_tb3 233 rfl rfl
theorem mo_wm_L_54 : Cond.methodLink RL 54 yX4_order ∈ mo_B := mo_tb3 234 rfl rfl
theorem mo_wm_L_144 : Cond.methodLink RL 144 yL_hours ∈ mo_B := mo_tb3 235 rfl rfl
theorem mo_wi_yL_hours : Cond.static yL_hours ∈ mo_B := mo_tb3 236 rfl rfl
theorem mo_wh_yL_hours : Cond.codeWith yL_hours cL_hours 5 (some .int) [(0, 10, 13, 21), (0, 10, 17, 13)] ∈ mo_B := mo_tb3 237 rfl rfl
theorem mo_wm_L_57 : Cond.methodLink RL 57 yX4_hours ∈ mo_B := mo_tb3 238 rfl rfl
theorem mo_wi_yX4_hours : Cond.instanceMethod yX4_hours ∈ mo_B := mo_tb3 239 rfl rfl
theorem mo_wl_yX4_hours : Cond.selects RX4 yX4_hours yX4_hours ∈ mo_B := mo_tb4 0 rfl rfl
theorem mo_wc_yX4_hours : Cond.code yX4_hours cX4_hours 3 (some .int) ∈ mo_B := mo_tb4 1 rfl rfl
theorem mo_wm_L_147 : Cond.methodLink RL 147 yL_owed ∈ mo_B := mo_tb4 2 rfl rfl
theorem mo_wi_yL_owed : Cond.static yL_owed ∈ mo_B := mo_tb4 3 rfl rfl
theorem mo_wh_yL_owed : Cond.codeWith yL_owed cL_owed 5 (some .int) [(0, 10, 13, 21), (0, 10, 17, 13)] ∈ mo_B := mo_tb4 4 rfl rfl
theorem mo_wm_L_60 : Cond.methodLink RL 60 yX4_owed ∈ mo_B := mo_tb4 5 rfl rfl
theorem mo_wi_yX4_owed : Cond.instanceMethod yX4_owed ∈ mo_B := mo_tb4 6 rfl rfl
theorem mo_wl_yX4_owed : Cond.selects RX4 yX4_owed yX4_owed ∈ mo_B := mo_tb4 7 rfl rfl
theorem mo_wc_yX4_owed : Cond.code yX4_owed cX4_owed 3 (some .int) ∈ mo_B := mo_tb4 8 rfl rfl
theorem mo_wm_L_150 : Cond.methodLink RL 150 yL_meeting ∈ mo_B := mo_tb4 9 rfl rfl
theorem mo_wi_yL_meeting : Cond.static yL_meeting ∈ mo_B := mo_tb4 10 rfl rfl
theorem mo_wh_yL_meeting : Cond.codeWith yL_meeting cL_meeting 5 (some .int) [(0, 10, 13, 21), (0, 10, 17, 13)] ∈ mo_B := mo_tb4 11 rfl rfl
theorem mo_wm_L_63 : Cond.methodLink RL 63 yX4_meeting ∈ mo_B := mo_tb4 12 rfl rfl
theorem mo_wi_yX4_meeting : Cond.instanceMethod yX4_meeting ∈ mo_B := mo_tb4 13 rfl rfl
theorem mo_wl_yX4_meeting : Cond.selects RX4 yX4_meeting yX4_meeting ∈ mo_B := mo_tb4 14 rfl rfl
theorem mo_wc_yX4_meeting : Cond.code yX4_meeting cX4_meeting 4 (some .int) ∈ mo_B := mo_tb4 15 rfl rfl
theorem mo_wm_L_153 : Cond.methodLink RL 153 yL_escort ∈ mo_B := mo_tb4 16 rfl rfl
theorem mo_wi_yL_escort : Cond.static yL_escort ∈ mo_B := mo_tb4 17 rfl rfl
theorem mo_wh_yL_escort : Cond.codeWith yL_escort cL_escort 5 (some .int) [(0, 10, 13, 21), (0, 10, 17, 13)] ∈ mo_B := mo_tb4 18 rfl rfl
theorem mo_wm_L_66 : Cond.methodLink RL 66 yX4_escort ∈ mo_B := mo_tb4 19 rfl rfl
theorem mo_wm_L_156 : Cond.methodLink RL 156 yL_freeRooms ∈ mo_B := mo_tb4 20 rfl rfl
theorem mo_wi_yL_freeRooms : Cond.static yL_freeRooms ∈ mo_B := mo_tb4 21 rfl rfl
theorem mo_wh_yL_freeRooms : Cond.codeWith yL_freeRooms cL_freeRooms 6 (some .int) [(0, 12, 15, 21), (0, 12, 19, 13)] ∈ mo_B := mo_tb4 22 rfl rfl
theorem mo_wm_L_69 : Cond.methodLink RL 69 yX4_freeRooms ∈ mo_B := mo_tb4 23 rfl rfl
theorem mo_wi_yX4_freeRooms : Cond.instanceMethod yX4_freeRooms ∈ mo_B := mo_tb4 24 rfl rfl
theorem mo_wl_yX4_freeRooms : Cond.selects RX4 yX4_freeRooms yX4_freeRooms ∈ mo_B := mo_tb4 25 rfl rfl
theorem mo_wc_yX4_freeRooms : Cond.code yX4_freeRooms cX4_freeRooms 4 (some .int) ∈ mo_B := mo_tb4 26 rfl rfl
theorem mo_wm_X4_242 : Cond.methodLink RX4 242 yX3_roomsLeft ∈ mo_B := mo_tb4 28 rfl rfl
theorem mo_wm_L_159 : Cond.methodLink RL 159 yL_value ∈ mo_B := mo_tb4 29 rfl rfl
theorem mo_wi_yL_value : Cond.static yL_value ∈ mo_B := mo_tb4 30 rfl rfl
theorem mo_wh_yL_value : Cond.codeWith yL_value cL_value 4 (some .int) [(0, 9, 12, 13)] ∈ mo_B := mo_tb4 31 rfl rfl
theorem mo_wm_L_72 : Cond.methodLink RL 72 yX4_value ∈ mo_B := mo_tb4 32 rfl rfl
theorem mo_wm_L_162 : Cond.methodLink RL 162 yL_why ∈ mo_B := mo_tb4 33 rfl rfl
theorem mo_wi_yL_why : Cond.static yL_why ∈ mo_B := mo_tb4 34 rfl rfl
theorem mo_wh_yL_why : Cond.codeWith yL_why cL_why 8 (some .int) [(0, 16, 19, 21), (0, 16, 23, 13)] ∈ mo_B := mo_tb4 35 rfl rfl
theorem mo_wm_L_75 : Cond.methodLink RL 75 yX4_why ∈ mo_B := mo_tb4 36 rfl rfl
theorem mo_wi_yX4_why : Cond.instanceMethod yX4_why ∈ mo_B := mo_tb4 37 rfl rfl
theorem mo_wl_yX4_why : Cond.selects RX4 yX4_why yX4_why ∈ mo_B := mo_tb4 38 rfl rfl
theorem mo_wc_yX4_why : Cond.code yX4_why cX4_why 6 (some .int) ∈ mo_B := mo_tb4 39 rfl rfl
theorem mo_wm_L_165 : Cond.methodLink RL 165 yL_firstSlot ∈ mo_B := mo_tb4 40 rfl rfl
theorem mo_wi_yL_firstSlot : Cond.static yL_firstSlot ∈ mo_B := mo_tb4 41 rfl rfl
theorem mo_wh_yL_firstSlot : Cond.codeWith yL_firstSlot cL_firstSlot 5 (some .int) [(0, 10, 13, 21), (0, 10, 17, 13)] ∈ mo_B := mo_tb4 42 rfl rfl
theorem mo_wm_L_78 : Cond.methodLink RL 78 yX4_firstSlot ∈ mo_B := mo_tb4 43 rfl rfl
theorem mo_wi_yX4_firstSlot : Cond.instanceMethod yX4_firstSlot ∈ mo_B := mo_tb4 44 rfl rfl
theorem mo_wl_yX4_firstSlot : Cond.selects RX4 yX4_firstSlot yX4_firstSlot ∈ mo_B := mo_tb4 45 rfl rfl
theorem mo_wc_yX4_firstSlot : Cond.code yX4_firstSlot cX4_firstSlot 3 (some .int) ∈ mo_B := mo_tb4 46 rfl rfl
theorem mo_wm_X4_262 : Cond.methodLink RX4 262 yX3_search ∈ mo_B := mo_tb4 47 rfl rfl
theorem mo_wm_L_168 : Cond.methodLink RL 168 yL_owedBehind ∈ mo_B := mo_tb4 48 rfl rfl
theorem mo_wi_yL_owedBehind : Cond.static yL_owedBehind ∈ mo_B := mo_tb4 49 rfl rfl
theorem mo_wh_yL_owedBehind : Cond.codeWith yL_owedBehind cL_owedBehind 4 (some .int) [(0, 9, 12, 13), (0, 9, 15, 15)] ∈ mo_B := mo_tb4 50 rfl rfl
theorem mo_wm_L_81 : Cond.methodLink RL 81 yX4_owedBehind ∈ mo_B := mo_tb4 51 rfl rfl
theorem mo_wi_yX4_owedBehind : Cond.instanceMethod yX4_owedBehind ∈ mo_B := mo_tb4 52 rfl rfl
theorem mo_wl_yX4_owedBehind : Cond.selects RX4 yX4_owedBehind yX4_owedBehind ∈ mo_B := mo_tb4 53 rfl rfl
theorem mo_wc_yX4_owedBehind : Cond.code yX4_owedBehind cX4_owedBehind 2 (some .int) ∈ mo_B := mo_tb4 54 rfl rfl
theorem mo_wm_L_175 : Cond.methodLink RL 175 yL_gainBy ∈ mo_B := mo_tb4 55 rfl rfl
theorem mo_wi_yL_gainBy : Cond.static yL_gainBy ∈ mo_B := mo_tb4 56 rfl rfl
theorem mo_wh_yL_gainBy : Cond.codeWith yL_gainBy cL_gainBy 5 (some .int) [(0, 10, 13, 21), (0, 10, 17, 13), (0, 10, 21, 15)] ∈ mo_B := mo_tb4 57 rfl rfl
theorem mo_wm_L_84 : Cond.methodLink RL 84 yX4_gainBy ∈ mo_B := mo_tb4 58 rfl rfl
theorem mo_wi_yX4_gainBy : Cond.instanceMethod yX4_gainBy ∈ mo_B := mo_tb4 59 rfl rfl
theorem mo_wl_yX4_gainBy : Cond.selects RX4 yX4_gainBy yX4_gainBy ∈ mo_B := mo_tb4 60 rfl rfl
theorem mo_wc_yX4_gainBy : Cond.code yX4_gainBy cX4_gainBy 4 (some .int) ∈ mo_B := mo_tb4 61 rfl rfl
theorem mo_wm_L_183 : Cond.methodLink RL 183 yL_append ∈ mo_B := mo_tb4 62 rfl rfl
theorem mo_wi_yL_append : Cond.static yL_append ∈ mo_B := mo_tb4 63 rfl rfl
theorem mo_wh_yL_append : Cond.codeWith yL_append cL_append 4 (some .int) [(0, 9, 12, 13), (0, 9, 15, 15)] ∈ mo_B := mo_tb4 64 rfl rfl
theorem mo_wm_L_87 : Cond.methodLink RL 87 yX4_append ∈ mo_B := mo_tb4 65 rfl rfl
theorem mo_wi_yX4_append : Cond.instanceMethod yX4_append ∈ mo_B := mo_tb4 66 rfl rfl
theorem mo_wl_yX4_append : Cond.selects RX4 yX4_append yX4_append ∈ mo_B := mo_tb4 67 rfl rfl
theorem mo_wc_yX4_append : Cond.code yX4_append cX4_append 2 (some .int) ∈ mo_B := mo_tb4 68 rfl rfl
theorem mo_wm_X4_280 : Cond.methodLink RX4 280 yX0_addByte ∈ mo_B := mo_tb4 71 rfl rfl
theorem mo_wi_yX0_addByte : Cond.instanceMethod yX0_addByte ∈ mo_B := mo_tb4 72 rfl rfl
theorem mo_wl_yX0_addByte : Cond.selects RX0 yX0_addByte yX0_addByte ∈ mo_B := mo_tb4 73 rfl rfl
theorem mo_wc_yX0_addByte : Cond.code yX0_addByte cX0_addByte 2 (some .int) ∈ mo_B := mo_tb4 74 rfl rfl
theorem mo_wm_L_194 : Cond.methodLink RL 194 yL_undo ∈ mo_B := mo_tb4 75 rfl rfl
theorem mo_wi_yL_undo : Cond.static yL_undo ∈ mo_B := mo_tb4 76 rfl rfl
theorem mo_wh_yL_undo : Cond.codeWith yL_undo cL_undo 3 (some .int) [(0, 8, 11, 15)] ∈ mo_B := mo_tb4 77 rfl rfl
theorem mo_wm_L_90 : Cond.methodLink RL 90 yX4_undo ∈ mo_B := mo_tb4 78 rfl rfl
theorem mo_wi_yX4_undo : Cond.instanceMethod yX4_undo ∈ mo_B := mo_tb4 79 rfl rfl
theorem mo_wl_yX4_undo : Cond.selects RX4 yX4_undo yX4_undo ∈ mo_B := mo_tb4 80 rfl rfl
theorem mo_wc_yX4_undo : Cond.code yX4_undo cX4_undo 1 (some .int) ∈ mo_B := mo_tb4 81 rfl rfl
theorem mo_wq_L_94 : Cond.classLink RL 94 RX5 ∈ mo_B := mo_tb4 83 rfl rfl
theorem mo_wn_X5 : Cond.instantiable RX5 15 ∈ mo_B := mo_tb4 84 rfl rfl
theorem mo_wm_L_96 : Cond.methodLink RL 96 yX5_init ∈ mo_B := mo_tb4 85 rfl rfl
theorem mo_wi_yX5_init : Cond.instanceMethod yX5_init ∈ mo_B := mo_tb4 86 rfl rfl
theorem mo_wc_yX5_init : Cond.code yX5_init cX5_init 1 none ∈ mo_B := mo_tb4 87 rfl rfl
theorem mo_wm_X5_1 : Cond.methodLink RX5 1 objectInit ∈ mo_B := mo_tb4 88 rfl rfl
theorem mo_wf_X5_7 : Cond.fieldLink RX5 7 "MeetingOrdersModel" "all" "[I" ∈ mo_B := mo_tb4 89 rfl rfl
theorem mo_wf_X5_13 : Cond.fieldLink RX5 13 "MeetingOrdersModel" "saved" "[I" ∈ mo_B := mo_tb4 90 rfl rfl
theorem mo_wf_X5_41 : Cond.fieldLink RX5 41 "MeetingOrdersModel" "savedMany" "I" ∈ mo_B := mo_tb4 91 rfl rfl
theorem mo_wf_X5_16 : Cond.fieldLink RX5 16 "MeetingOrdersModel" "aside" "[I" ∈ mo_B := mo_tb4 92 rfl rfl
theorem mo_wf_X5_37 : Cond.fieldLink RX5 37 "MeetingOrdersModel" "thrown" "I" ∈ mo_B := mo_tb4 93 rfl rfl
theorem mo_wf_X5_19 : Cond.fieldLink RX5 19 "MeetingOrdersModel" "free" "[I" ∈ mo_B := mo_tb4 94 rfl rfl
theorem mo_wf_X5_22 : Cond.fieldLink RX5 22 "MeetingOrdersModel" "busy" "[I" ∈ mo_B := mo_tb4 95 rfl rfl
theorem mo_wf_X5_25 : Cond.fieldLink RX5 25 "MeetingOrdersModel" "manyOf" "[I" ∈ mo_B := mo_tb4 96 rfl rfl
theorem mo_wf_X5_28 : Cond.fieldLink RX5 28 "MeetingOrdersModel" "days" "[I" ∈ mo_B := mo_tb4 97 rfl rfl
theorem mo_wf_X5_31 : Cond.fieldLink RX5 31 "MeetingOrdersModel" "text" "[I" ∈ mo_B := mo_tb4 98 rfl rfl
theorem mo_wf_X5_211 : Cond.fieldLink RX5 211 "MeetingOrdersModel" "textLong" "I" ∈ mo_B := mo_tb4 99 rfl rfl
theorem mo_wf_X5_214 : Cond.fieldLink RX5 214 "MeetingOrdersModel" "at" "I" ∈ mo_B := mo_tb4 100 rfl rfl
theorem mo_wf_X5_226 : Cond.fieldLink RX5 226 "MeetingOrdersModel" "letter" "I" ∈ mo_B := mo_tb4 101 rfl rfl
theorem mo_wf_X5_34 : Cond.fieldLink RX5 34 "MeetingOrdersModel" "numbers" "[I" ∈ mo_B := mo_tb4 102 rfl rfl
theorem mo_wf_X5_253 : Cond.fieldLink RX5 253 "MeetingOrdersModel" "sum" "J" ∈ mo_B := mo_tb4 103 rfl rfl
theorem mo_wm_L_103 : Cond.methodLink RL 103 yX5_thrown ∈ mo_B := mo_tb4 135 rfl rfl
theorem mo_wi_yX5_thrown : Cond.instanceMethod yX5_thrown ∈ mo_B := mo_tb4 136 rfl rfl
theorem mo_wl_yX5_thrown : Cond.selects RX5 yX5_thrown yX5_thrown ∈ mo_B := mo_tb4 137 rfl rfl
theorem mo_wc_yX5_thrown : Cond.code yX5_thrown cX5_thrown 1 (some .int) ∈ mo_B := mo_tb4 138 rfl rfl
theorem mo_wm_L_102 : Cond.methodLink RL 102 yX5_addOrder ∈ mo_B := mo_tb4 139 rfl rfl
theorem mo_wi_yX5_addOrder : Cond.instanceMethod yX5_addOrder ∈ mo_B := mo_tb4 140 rfl rfl
theorem mo_wl_yX5_addOrder : Cond.selects RX5 yX5_addOrder yX5_addOrder ∈ mo_B := mo_tb4 141 rfl rfl
theorem mo_wc_yX5_addOrder : Cond.code yX5_addOrder cX5_addOrder 5 (some .int) ∈ mo_B := mo_tb4 142 rfl rfl
theorem mo_wk_X5_52 : Cond.constantLong RX5 52 (Int64.ofInt 7) ∈ mo_B := mo_tb4 143 rfl rfl
theorem mo_wm_X5_44 : Cond.methodLink RX5 44 yX5_in ∈ mo_B := mo_tb4 144 rfl rfl
theorem mo_wi_yX5_in : Cond.static yX5_in ∈ mo_B := mo_tb4 145 rfl rfl
theorem mo_wc_yX5_in : Cond.code yX5_in cX5_in 6 (some .boolean) ∈ mo_B := mo_tb4 146 rfl rfl
theorem mo_wm_X5_54 : Cond.methodLink RX5 54 yX5_areVenues ∈ mo_B := mo_tb4 147 rfl rfl
theorem mo_wi_yX5_areVenues : Cond.instanceMethod yX5_areVenues ∈ mo_B := mo_tb4 149 rfl rfl
theorem mo_wc_yX5_areVenues : Cond.code yX5_areVenues cX5_areVenues 2 (some .boolean) ∈ mo_B := mo_tb4 150 rfl rfl
theorem mo_wm_X5_58 : Cond.methodLink RX5 58 yX5_goes ∈ mo_B := mo_tb4 151 rfl rfl
theorem mo_wi_yX5_goes : Cond.instanceMethod yX5_goes ∈ mo_B := mo_tb4 153 rfl rfl
theorem mo_wc_yX5_goes : Cond.code yX5_goes cX5_goes 4 (some .boolean) ∈ mo_B := mo_tb4 154 rfl rfl
theorem mo_wm_X5_62 : Cond.methodLink RX5 62 yX5_save ∈ mo_B := mo_tb4 155 rfl rfl
theorem mo_wi_yX5_save : Cond.instanceMethod yX5_save ∈ mo_B := mo_tb4 157 rfl rfl
theorem mo_wc_yX5_save : Cond.code yX5_save cX5_save 2 none ∈ mo_B := mo_tb4 158 rfl rfl
theorem mo_wm_L_109 : Cond.methodLink RL 109 yX5_change ∈ mo_B := mo_tb4 159 rfl rfl
theorem mo_wi_yX5_change : Cond.instanceMethod yX5_change ∈ mo_B := mo_tb4 160 rfl rfl
theorem mo_wl_yX5_change : Cond.selects RX5 yX5_change yX5_change ∈ mo_B := mo_tb4 161 rfl rfl
theorem mo_wc_yX5_change : Cond.code yX5_change cX5_change 5 (some .int) ∈ mo_B := mo_tb4 162 rfl rfl
theorem mo_wm_X5_65 : Cond.methodLink RX5 65 yX5_isOrder ∈ mo_B := mo_tb4 163 rfl rfl
theorem mo_wi_yX5_isOrder : Cond.instanceMethod yX5_isOrder ∈ mo_B := mo_tb4 165 rfl rfl
theorem mo_wc_yX5_isOrder : Cond.code yX5_isOrder cX5_isOrder 2 (some .boolean) ∈ mo_B := mo_tb4 166 rfl rfl
theorem mo_wm_X5_68 : Cond.methodLink RX5 68 yX5_mayChange ∈ mo_B := mo_tb4 167 rfl rfl
theorem mo_wi_yX5_mayChange : Cond.instanceMethod yX5_mayChange ∈ mo_B := mo_tb4 169 rfl rfl
theorem mo_wc_yX5_mayChange : Cond.code yX5_mayChange cX5_mayChange 3 (some .boolean) ∈ mo_B := mo_tb4 170 rfl rfl
theorem mo_wk_X5_48 : Cond.constantLong RX5 48 (Int64.ofInt 19) ∈ mo_B := mo_tb4 171 rfl rfl
theorem mo_wm_X5_72 : Cond.methodLink RX5 72 yX5_changes ∈ mo_B := mo_tb4 172 rfl rfl
theorem mo_wi_yX5_changes : Cond.instanceMethod yX5_changes ∈ mo_B := mo_tb4 174 rfl rfl
theorem mo_wc_yX5_changes : Cond.code yX5_changes cX5_changes 5 none ∈ mo_B := mo_tb4 175 rfl rfl
theorem mo_wm_L_112 : Cond.methodLink RL 112 yX5_allow ∈ mo_B := mo_tb4 176 rfl rfl
theorem mo_wi_yX5_allow : Cond.instanceMethod yX5_allow ∈ mo_B := mo_tb4 177 rfl rfl
theorem mo_wl_yX5_allow : Cond.selects RX5 yX5_allow yX5_allow ∈ mo_B := mo_tb4 178 rfl rfl
theorem mo_wc_yX5_allow : Cond.code yX5_allow cX5_allow 3 (some .int) ∈ mo_B := mo_tb4 179 rfl rfl
theorem mo_wm_X5_76 : Cond.methodLink RX5 76 yX5_exchange ∈ mo_B := mo_tb4 180 rfl rfl
theorem mo_wi_yX5_exchange : Cond.instanceMethod yX5_exchange ∈ mo_B := mo_tb4 182 rfl rfl
theorem mo_wc_yX5_exchange : Cond.code yX5_exchange cX5_exchange 4 (some .int) ∈ mo_B := mo_tb4 183 rfl rfl
theorem mo_wm_L_115 : Cond.methodLink RL 115 yX5_addEscort ∈ mo_B := mo_tb4 184 rfl rfl
theorem mo_wi_yX5_addEscort : Cond.instanceMethod yX5_addEscort ∈ mo_B := mo_tb4 185 rfl rfl
theorem mo_wl_yX5_addEscort : Cond.selects RX5 yX5_addEscort yX5_addEscort ∈ mo_B := mo_tb4 186 rfl rfl
theorem mo_wc_yX5_addEscort : Cond.code yX5_addEscort cX5_addEscort 4 (some .int) ∈ mo_B := mo_tb4 187 rfl rfl
theorem mo_wk_X5_80 : Cond.constantLong RX5 80 (Int64.ofInt 268435455) ∈ mo_B := mo_tb4 188 rfl rfl
theorem mo_wk_X5_82 : Cond.constantLong RX5 82 (Int64.ofInt 20) ∈ mo_B := mo_tb4 189 rfl rfl
theorem mo_wm_L_118 : Cond.methodLink RL 118 yX5_setSlots ∈ mo_B := mo_tb4 190 rfl rfl
theorem mo_wi_yX5_setSlots : Cond.instanceMethod yX5_setSlots ∈ mo_B := mo_tb4 191 rfl rfl
theorem mo_wl_yX5_setSlots : Cond.selects RX5 yX5_setSlots yX5_setSlots ∈ mo_B := mo_tb4 192 rfl rfl
theorem mo_wc_yX5_setSlots : Cond.code yX5_setSlots cX5_setSlots 3 (some .int) ∈ mo_B := mo_tb4 193 rfl rfl
theorem mo_wm_X5_84 : Cond.methodLink RX5 84 yX5_isEscort ∈ mo_B := mo_tb4 194 rfl rfl
theorem mo_wi_yX5_isEscort : Cond.instanceMethod yX5_isEscort ∈ mo_B := mo_tb4 196 rfl rfl
theorem mo_wc_yX5_isEscort : Cond.code yX5_isEscort cX5_isEscort 2 (some .boolean) ∈ mo_B := mo_tb4 197 rfl rfl
theorem mo_wm_L_122 : Cond.methodLink RL 122 yX5_addVenue ∈ mo_B := mo_tb4 198 rfl rfl
theorem mo_wi_yX5_addVenue : Cond.instanceMethod yX5_addVenue ∈ mo_B := mo_tb4 199 rfl rfl
theorem mo_wl_yX5_addVenue : Cond.selects RX5 yX5_addVenue yX5_addVenue ∈ mo_B := mo_tb4 200 rfl rfl
theorem mo_wc_yX5_addVenue : Cond.code yX5_addVenue cX5_addVenue 3 (some .int) ∈ mo_B := mo_tb4 201 rfl rfl
theorem mo_wk_X5_87 : Cond.constantLong RX5 87 (Int64.ofInt 4) ∈ mo_B := mo_tb4 202 rfl rfl
theorem mo_wm_L_126 : Cond.methodLink RL 126 yX5_plan ∈ mo_B := mo_tb4 203 rfl rfl
theorem mo_wi_yX5_plan : Cond.instanceMethod yX5_plan ∈ mo_B := mo_tb4 204 rfl rfl
theorem mo_wl_yX5_plan : Cond.selects RX5 yX5_plan yX5_plan ∈ mo_B := mo_tb4 205 rfl rfl
theorem mo_wc_yX5_plan : Cond.code yX5_plan cX5_plan 8 (some .int) ∈ mo_B := mo_tb4 206 rfl rfl
theorem mo_wm_X5_108 : Cond.methodLink RX5 108 yX5_areThere ∈ mo_B := mo_tb4 207 rfl rfl
theorem mo_wi_yX5_areThere : Cond.instanceMethod yX5_areThere ∈ mo_B := mo_tb4 209 rfl rfl
theorem mo_wc_yX5_areThere : Cond.code yX5_areThere cX5_areThere 4 (some .boolean) ∈ mo_B := mo_tb4 210 rfl rfl
theorem mo_wm_X5_105 : Cond.methodLink RX5 105 yX5_isVenue ∈ mo_B := mo_tb4 211 rfl rfl
theorem mo_wi_yX5_isVenue : Cond.instanceMethod yX5_isVenue ∈ mo_B := mo_tb4 213 rfl rfl
theorem mo_wc_yX5_isVenue : Cond.code yX5_isVenue cX5_isVenue 2 (some .boolean) ∈ mo_B := mo_tb4 214 rfl rfl
theorem mo_wm_X5_112 : Cond.methodLink RX5 112 yX5_isWeek ∈ mo_B := mo_tb4 215 rfl rfl
theorem mo_wi_yX5_isWeek : Cond.static yX5_isWeek ∈ mo_B := mo_tb4 216 rfl rfl
theorem mo_wc_yX5_isWeek : Cond.code yX5_isWeek cX5_isWeek 1 (some .boolean) ∈ mo_B := mo_tb4 217 rfl rfl
theorem mo_wm_X5_115 : Cond.methodLink RX5 115 yX5_isSlot ∈ mo_B := mo_tb4 218 rfl rfl
theorem mo_wi_yX5_isSlot : Cond.static yX5_isSlot ∈ mo_B := mo_tb4 219 rfl rfl
theorem mo_wc_yX5_isSlot : Cond.code yX5_isSlot cX5_isSlot 1 (some .boolean) ∈ mo_B := mo_tb4 220 rfl rfl
theorem mo_wk_X5_50 : Cond.constantLong RX5 50 (Int64.ofInt 27) ∈ mo_B := mo_tb4 221 rfl rfl
theorem mo_wm_X5_118 : Cond.methodLink RX5 118 yX5_reason ∈ mo_B := mo_tb4 222 rfl rfl
theorem mo_wi_yX5_reason : Cond.instanceMethod yX5_reason ∈ mo_B := mo_tb4 224 rfl rfl
theorem mo_wc_yX5_reason : Cond.code yX5_reason cX5_reason 7 (some .int) ∈ mo_B := mo_tb4 225 rfl rfl
theorem mo_wm_X5_95 : Cond.methodLink RX5 95 yX5_has ∈ mo_B := mo_tb4 226 rfl rfl
theorem mo_wi_yX5_has : Cond.static yX5_has ∈ mo_B := mo_tb4 227 rfl rfl
theorem mo_wc_yX5_has : Cond.code yX5_has cX5_has 2 (some .boolean) ∈ mo_B := mo_tb4 228 rfl rfl
theorem mo_wm_X5_98 : Cond.methodLink RX5 98 yX5_look ∈ mo_B := mo_tb4 229 rfl rfl
theorem mo_wi_yX5_look : Cond.instanceMethod yX5_look ∈ mo_B := mo_tb4 231 rfl rfl
theorem mo_wc_yX5_look : Cond.code yX5_look cX5_look 3 none ∈ mo_B := mo_tb4 232 rfl rfl
theorem mo_wm_X5_92 : Cond.methodLink RX5 92 yX5_stands ∈ mo_B := mo_tb4 233 rfl rfl
theorem mo_wi_yX5_stands : Cond.instanceMethod yX5_stands ∈ mo_B := mo_tb4 235 rfl rfl
theorem mo_wc_yX5_stands : Cond.code yX5_stands cX5_stands 3 (some .boolean) ∈ mo_B := mo_tb4 236 rfl rfl
theorem mo_wm_X5_89 : Cond.methodLink RX5 89 yX5_of ∈ mo_B := mo_tb4 237 rfl rfl
theorem mo_wi_yX5_of : Cond.instanceMethod yX5_of ∈ mo_B := mo_tb4 239 rfl rfl
theorem mo_wc_yX5_of : Cond.code yX5_of cX5_of 3 (some .int) ∈ mo_B := mo_tb5 0 rfl rfl
theorem mo_wm_X5_102 : Cond.methodLink RX5 102 yX5_whyEscort ∈ mo_B := mo_tb5 1 rfl rfl
theorem mo_wi_yX5_whyEscort : Cond.instanceMethod yX5_whyEscort ∈ mo_B := mo_tb5 3 rfl rfl
theorem mo_wc_yX5_whyEscort : Cond.code yX5_whyEscort cX5_whyEscort 3 (some .int) ∈ mo_B := mo_tb5 4 rfl rfl
theorem mo_wm_X5_122 : Cond.methodLink RX5 122 yX5_lays ∈ mo_B := mo_tb5 5 rfl rfl
theorem mo_wi_yX5_lays : Cond.instanceMethod yX5_lays ∈ mo_B := mo_tb5 7 rfl rfl
theorem mo_wc_yX5_lays : Cond.code yX5_lays cX5_lays 7 none ∈ mo_B := mo_tb5 8 rfl rfl
theorem mo_wm_L_129 : Cond.methodLink RL 129 yX5_planWeek ∈ mo_B := mo_tb5 9 rfl rfl
theorem mo_wi_yX5_planWeek : Cond.instanceMethod yX5_planWeek ∈ mo_B := mo_tb5 10 rfl rfl
theorem mo_wl_yX5_planWeek : Cond.selects RX5 yX5_planWeek yX5_planWeek ∈ mo_B := mo_tb5 11 rfl rfl
theorem mo_wc_yX5_planWeek : Cond.code yX5_planWeek cX5_planWeek 2 (some .int) ∈ mo_B := mo_tb5 12 rfl rfl
theorem mo_wm_X5_142 : Cond.methodLink RX5 142 yX5_plans ∈ mo_B := mo_tb5 13 rfl rfl
theorem mo_wi_yX5_plans : Cond.instanceMethod yX5_plans ∈ mo_B := mo_tb5 15 rfl rfl
theorem mo_wc_yX5_plans : Cond.code yX5_plans cX5_plans 3 (some .int) ∈ mo_B := mo_tb5 16 rfl rfl
theorem mo_wm_X5_139 : Cond.methodLink RX5 139 yX5_plansOne ∈ mo_B := mo_tb5 17 rfl rfl
theorem mo_wi_yX5_plansOne : Cond.instanceMethod yX5_plansOne ∈ mo_B := mo_tb5 19 rfl rfl
theorem mo_wc_yX5_plansOne : Cond.code yX5_plansOne cX5_plansOne 7 (some .boolean) ∈ mo_B := mo_tb5 20 rfl rfl
theorem mo_wm_X5_126 : Cond.methodLink RX5 126 yX5_owes ∈ mo_B := mo_tb5 21 rfl rfl
theorem mo_wi_yX5_owes : Cond.instanceMethod yX5_owes ∈ mo_B := mo_tb5 23 rfl rfl
theorem mo_wc_yX5_owes : Cond.code yX5_owes cX5_owes 5 (some .int) ∈ mo_B := mo_tb5 24 rfl rfl
theorem mo_wm_X5_136 : Cond.methodLink RX5 136 yX5_slotFor ∈ mo_B := mo_tb5 25 rfl rfl
theorem mo_wi_yX5_slotFor : Cond.instanceMethod yX5_slotFor ∈ mo_B := mo_tb5 27 rfl rfl
theorem mo_wc_yX5_slotFor : Cond.code yX5_slotFor cX5_slotFor 4 (some .int) ∈ mo_B := mo_tb5 28 rfl rfl
theorem mo_wm_X5_129 : Cond.methodLink RX5 129 yX5_venueFor ∈ mo_B := mo_tb5 29 rfl rfl
theorem mo_wi_yX5_venueFor : Cond.instanceMethod yX5_venueFor ∈ mo_B := mo_tb5 31 rfl rfl
theorem mo_wc_yX5_venueFor : Cond.code yX5_venueFor cX5_venueFor 4 (some .int) ∈ mo_B := mo_tb5 32 rfl rfl
theorem mo_wm_X5_132 : Cond.methodLink RX5 132 yX5_escortFor ∈ mo_B := mo_tb5 33 rfl rfl
theorem mo_wi_yX5_escortFor : Cond.instanceMethod yX5_escortFor ∈ mo_B := mo_tb5 35 rfl rfl
theorem mo_wc_yX5_escortFor : Cond.code yX5_escortFor cX5_escortFor 5 (some .int) ∈ mo_B := mo_tb5 36 rfl rfl
theorem mo_wm_L_132 : Cond.methodLink RL 132 yX5_cancel ∈ mo_B := mo_tb5 37 rfl rfl
theorem mo_wi_yX5_cancel : Cond.instanceMethod yX5_cancel ∈ mo_B := mo_tb5 38 rfl rfl
theorem mo_wl_yX5_cancel : Cond.selects RX5 yX5_cancel yX5_cancel ∈ mo_B := mo_tb5 39 rfl rfl
theorem mo_wc_yX5_cancel : Cond.code yX5_cancel cX5_cancel 4 (some .int) ∈ mo_B := mo_tb5 40 rfl rfl
theorem mo_wm_X5_145 : Cond.methodLink RX5 145 yX5_placeOf ∈ mo_B := mo_tb5 41 rfl rfl
theorem mo_wi_yX5_placeOf : Cond.instanceMethod yX5_placeOf ∈ mo_B := mo_tb5 43 rfl rfl
theorem mo_wc_yX5_placeOf : Cond.code yX5_placeOf cX5_placeOf 3 (some .int) ∈ mo_B := mo_tb5 44 rfl rfl
theorem mo_wm_X5_148 : Cond.methodLink RX5 148 yX5_takeOut ∈ mo_B := mo_tb5 45 rfl rfl
theorem mo_wi_yX5_takeOut : Cond.instanceMethod yX5_takeOut ∈ mo_B := mo_tb5 47 rfl rfl
theorem mo_wc_yX5_takeOut : Cond.code yX5_takeOut cX5_takeOut 3 none ∈ mo_B := mo_tb5 48 rfl rfl
theorem mo_wm_L_136 : Cond.methodLink RL 136 yX5_tell ∈ mo_B := mo_tb5 49 rfl rfl
theorem mo_wi_yX5_tell : Cond.instanceMethod yX5_tell ∈ mo_B := mo_tb5 50 rfl rfl
theorem mo_wl_yX5_tell : Cond.selects RX5 yX5_tell yX5_tell ∈ mo_B := mo_tb5 51 rfl rfl
theorem mo_wc_yX5_tell : Cond.code yX5_tell cX5_tell 4 (some .int) ∈ mo_B := mo_tb5 52 rfl rfl
theorem mo_wm_X5_157 : Cond.methodLink RX5 157 yX5_mayTell ∈ mo_B := mo_tb5 53 rfl rfl
theorem mo_wi_yX5_mayTell : Cond.instanceMethod yX5_mayTell ∈ mo_B := mo_tb5 55 rfl rfl
theorem mo_wc_yX5_mayTell : Cond.code yX5_mayTell cX5_mayTell 2 (some .boolean) ∈ mo_B := mo_tb5 56 rfl rfl
theorem mo_wm_X5_160 : Cond.methodLink RX5 160 yX5_tells ∈ mo_B := mo_tb5 57 rfl rfl
theorem mo_wi_yX5_tells : Cond.instanceMethod yX5_tells ∈ mo_B := mo_tb5 59 rfl rfl
theorem mo_wc_yX5_tells : Cond.code yX5_tells cX5_tells 3 none ∈ mo_B := mo_tb5 60 rfl rfl
theorem mo_wm_X5_151 : Cond.methodLink RX5 151 yX5_holds ∈ mo_B := mo_tb5 61 rfl rfl
theorem mo_wi_yX5_holds : Cond.instanceMethod yX5_holds ∈ mo_B := mo_tb5 63 rfl rfl
theorem mo_wc_yX5_holds : Cond.code yX5_holds cX5_holds 2 none ∈ mo_B := mo_tb5 64 rfl rfl
theorem mo_wm_X5_154 : Cond.methodLink RX5 154 yX5_misses ∈ mo_B := mo_tb5 65 rfl rfl
theorem mo_wi_yX5_misses : Cond.instanceMethod yX5_misses ∈ mo_B := mo_tb5 67 rfl rfl
theorem mo_wc_yX5_misses : Cond.code yX5_misses cX5_misses 2 none ∈ mo_B := mo_tb5 68 rfl rfl
theorem mo_wm_L_140 : Cond.methodLink RL 140 yX5_endWeek ∈ mo_B := mo_tb5 69 rfl rfl
theorem mo_wi_yX5_endWeek : Cond.instanceMethod yX5_endWeek ∈ mo_B := mo_tb5 70 rfl rfl
theorem mo_wl_yX5_endWeek : Cond.selects RX5 yX5_endWeek yX5_endWeek ∈ mo_B := mo_tb5 71 rfl rfl
theorem mo_wc_yX5_endWeek : Cond.code yX5_endWeek cX5_endWeek 1 (some .int) ∈ mo_B := mo_tb5 72 rfl rfl
theorem mo_wm_X5_164 : Cond.methodLink RX5 164 yX5_ends ∈ mo_B := mo_tb5 73 rfl rfl
theorem mo_wi_yX5_ends : Cond.instanceMethod yX5_ends ∈ mo_B := mo_tb5 75 rfl rfl
theorem mo_wc_yX5_ends : Cond.code yX5_ends cX5_ends 3 (some .int) ∈ mo_B := mo_tb5 76 rfl rfl
theorem mo_wm_L_143 : Cond.methodLink RL 143 yX5_order ∈ mo_B := mo_tb5 77 rfl rfl
theorem mo_wi_yX5_order : Cond.instanceMethod yX5_order ∈ mo_B := mo_tb5 78 rfl rfl
theorem mo_wl_yX5_order : Cond.selects RX5 yX5_order yX5_order ∈ mo_B := mo_tb5 79 rfl rfl
theorem mo_wc_yX5_order : Cond.code yX5_order cX5_order 3 (some .int) ∈ mo_B := mo_tb5 80 rfl rfl
theorem mo_wk_X5_174 : Cond.constantLong RX5 174 (Int64.ofInt 6) ∈ mo_B := mo_tb5 81 rfl rfl
theorem mo_wm_X5_176 : Cond.methodLink RX5 176 yX5_orderValue ∈ mo_B := mo_tb5 82 rfl rfl
theorem mo_wi_yX5_orderValue : Cond.instanceMethod yX5_orderValue ∈ mo_B := mo_tb5 84 rfl rfl
theorem mo_wc_yX5_orderValue : Cond.code yX5_orderValue cX5_orderValue 3 (some .int) ∈ mo_B := mo_tb5 85 rfl rfl
theorem mo_wm_X5_168 : Cond.methodLink RX5 168 yX5_plannedOf ∈ mo_B := mo_tb5 86 rfl rfl
theorem mo_wi_yX5_plannedOf : Cond.instanceMethod yX5_plannedOf ∈ mo_B := mo_tb5 88 rfl rfl
theorem mo_wc_yX5_plannedOf : Cond.code yX5_plannedOf cX5_plannedOf 4 (some .int) ∈ mo_B := mo_tb5 89 rfl rfl
theorem mo_wm_X5_171 : Cond.methodLink RX5 171 yX5_hoursOf ∈ mo_B := mo_tb5 90 rfl rfl
theorem mo_wi_yX5_hoursOf : Cond.instanceMethod yX5_hoursOf ∈ mo_B := mo_tb5 92 rfl rfl
theorem mo_wc_yX5_hoursOf : Cond.code yX5_hoursOf cX5_hoursOf 4 (some .int) ∈ mo_B := mo_tb5 93 rfl rfl
theorem mo_wm_L_146 : Cond.methodLink RL 146 yX5_hours ∈ mo_B := mo_tb5 94 rfl rfl
theorem mo_wi_yX5_hours : Cond.instanceMethod yX5_hours ∈ mo_B := mo_tb5 95 rfl rfl
theorem mo_wl_yX5_hours : Cond.selects RX5 yX5_hours yX5_hours ∈ mo_B := mo_tb5 96 rfl rfl
theorem mo_wc_yX5_hours : Cond.code yX5_hours cX5_hours 3 (some .int) ∈ mo_B := mo_tb5 97 rfl rfl
theorem mo_wm_L_149 : Cond.methodLink RL 149 yX5_owed ∈ mo_B := mo_tb5 98 rfl rfl
theorem mo_wi_yX5_owed : Cond.instanceMethod yX5_owed ∈ mo_B := mo_tb5 99 rfl rfl
theorem mo_wl_yX5_owed : Cond.selects RX5 yX5_owed yX5_owed ∈ mo_B := mo_tb5 100 rfl rfl
theorem mo_wc_yX5_owed : Cond.code yX5_owed cX5_owed 3 (some .int) ∈ mo_B := mo_tb5 101 rfl rfl
theorem mo_wm_L_152 : Cond.methodLink RL 152 yX5_meeting ∈ mo_B := mo_tb5 102 rfl rfl
theorem mo_wi_yX5_meeting : Cond.instanceMethod yX5_meeting ∈ mo_B := mo_tb5 103 rfl rfl
theorem mo_wl_yX5_meeting : Cond.selects RX5 yX5_meeting yX5_meeting ∈ mo_B := mo_tb5 104 rfl rfl
theorem mo_wc_yX5_meeting : Cond.code yX5_meeting cX5_meeting 4 (some .int) ∈ mo_B := mo_tb5 105 rfl rfl
theorem mo_wk_X5_179 : Cond.constantLong RX5 179 (Int64.ofInt 5) ∈ mo_B := mo_tb5 106 rfl rfl
theorem mo_wm_L_155 : Cond.methodLink RL 155 yX5_escort ∈ mo_B := mo_tb5 107 rfl rfl
theorem mo_wi_yX5_escort : Cond.instanceMethod yX5_escort ∈ mo_B := mo_tb5 108 rfl rfl
theorem mo_wl_yX5_escort : Cond.selects RX5 yX5_escort yX5_escort ∈ mo_B := mo_tb5 109 rfl rfl
theorem mo_wc_yX5_escort : Cond.code yX5_escort cX5_escort 3 (some .int) ∈ mo_B := mo_tb5 110 rfl rfl
theorem mo_wk_X5_184 : Cond.constantLong RX5 184 (Int64.ofInt 3) ∈ mo_B := mo_tb5 111 rfl rfl
theorem mo_wm_X5_186 : Cond.methodLink RX5 186 yX5_escortValue ∈ mo_B := mo_tb5 112 rfl rfl
theorem mo_wi_yX5_escortValue : Cond.instanceMethod yX5_escortValue ∈ mo_B := mo_tb5 114 rfl rfl
theorem mo_wc_yX5_escortValue : Cond.code yX5_escortValue cX5_escortValue 3 (some .int) ∈ mo_B := mo_tb5 115 rfl rfl
theorem mo_wm_X5_181 : Cond.methodLink RX5 181 yX5_manyNow ∈ mo_B := mo_tb5 116 rfl rfl
theorem mo_wi_yX5_manyNow : Cond.instanceMethod yX5_manyNow ∈ mo_B := mo_tb5 118 rfl rfl
theorem mo_wc_yX5_manyNow : Cond.code yX5_manyNow cX5_manyNow 2 (some .int) ∈ mo_B := mo_tb5 119 rfl rfl
theorem mo_wm_L_158 : Cond.methodLink RL 158 yX5_freeRooms ∈ mo_B := mo_tb5 120 rfl rfl
theorem mo_wi_yX5_freeRooms : Cond.instanceMethod yX5_freeRooms ∈ mo_B := mo_tb5 121 rfl rfl
theorem mo_wl_yX5_freeRooms : Cond.selects RX5 yX5_freeRooms yX5_freeRooms ∈ mo_B := mo_tb5 122 rfl rfl
theorem mo_wc_yX5_freeRooms : Cond.code yX5_freeRooms cX5_freeRooms 4 (some .int) ∈ mo_B := mo_tb5 123 rfl rfl
theorem mo_wm_L_161 : Cond.methodLink RL 161 yX5_value ∈ mo_B := mo_tb5 124 rfl rfl
theorem mo_wi_yX5_value : Cond.instanceMethod yX5_value ∈ mo_B := mo_tb5 125 rfl rfl
theorem mo_wl_yX5_value : Cond.selects RX5 yX5_value yX5_value ∈ mo_B := mo_tb5 126 rfl rfl
theorem mo_wc_yX5_value : Cond.code yX5_value cX5_value 2 (some .int) ∈ mo_B := mo_tb5 127 rfl rfl
theorem mo_wk_X5_192 : Cond.constantLong RX5 192 (Int64.ofInt 9) ∈ mo_B := mo_tb5 128 rfl rfl
theorem mo_wm_X5_194 : Cond.methodLink RX5 194 yX5_numberOf ∈ mo_B := mo_tb5 129 rfl rfl
theorem mo_wi_yX5_numberOf : Cond.instanceMethod yX5_numberOf ∈ mo_B := mo_tb5 131 rfl rfl
theorem mo_wc_yX5_numberOf : Cond.code yX5_numberOf cX5_numberOf 2 (some .int) ∈ mo_B := mo_tb5 132 rfl rfl
theorem mo_wm_X5_189 : Cond.methodLink RX5 189 yX5_owedByAll ∈ mo_B := mo_tb5 133 rfl rfl
theorem mo_wi_yX5_owedByAll : Cond.instanceMethod yX5_owedByAll ∈ mo_B := mo_tb5 135 rfl rfl
theorem mo_wc_yX5_owedByAll : Cond.code yX5_owedByAll cX5_owedByAll 4 (some .int) ∈ mo_B := mo_tb5 136 rfl rfl
theorem mo_wm_L_164 : Cond.methodLink RL 164 yX5_why ∈ mo_B := mo_tb5 137 rfl rfl
theorem mo_wi_yX5_why : Cond.instanceMethod yX5_why ∈ mo_B := mo_tb5 138 rfl rfl
theorem mo_wl_yX5_why : Cond.selects RX5 yX5_why yX5_why ∈ mo_B := mo_tb5 139 rfl rfl
theorem mo_wc_yX5_why : Cond.code yX5_why cX5_why 7 (some .int) ∈ mo_B := mo_tb5 140 rfl rfl
theorem mo_wm_L_167 : Cond.methodLink RL 167 yX5_firstSlot ∈ mo_B := mo_tb5 141 rfl rfl
theorem mo_wi_yX5_firstSlot : Cond.instanceMethod yX5_firstSlot ∈ mo_B := mo_tb5 142 rfl rfl
theorem mo_wl_yX5_firstSlot : Cond.selects RX5 yX5_firstSlot yX5_firstSlot ∈ mo_B := mo_tb5 143 rfl rfl
theorem mo_wc_yX5_firstSlot : Cond.code yX5_firstSlot cX5_firstSlot 3 (some .int) ∈ mo_B := mo_tb5 144 rfl rfl
theorem mo_wm_L_170 : Cond.methodLink RL 170 yX5_owedBehind ∈ mo_B := mo_tb5 145 rfl rfl
theorem mo_wi_yX5_owedBehind : Cond.instanceMethod yX5_owedBehind ∈ mo_B := mo_tb5 146 rfl rfl
theorem mo_wl_yX5_owedBehind : Cond.selects RX5 yX5_owedBehind yX5_owedBehind ∈ mo_B := mo_tb5 147 rfl rfl
theorem mo_wc_yX5_owedBehind : Cond.code yX5_owedBehind cX5_owedBehind 4 (some .int) ∈ mo_B := mo_tb5 148 rfl rfl
theorem mo_wm_X5_197 : Cond.methodLink RX5 197 yX5_layAside ∈ mo_B := mo_tb5 149 rfl rfl
theorem mo_wi_yX5_layAside : Cond.instanceMethod yX5_layAside ∈ mo_B := mo_tb5 151 rfl rfl
theorem mo_wc_yX5_layAside : Cond.code yX5_layAside cX5_layAside 2 none ∈ mo_B := mo_tb5 152 rfl rfl
theorem mo_wm_X5_200 : Cond.methodLink RX5 200 yX5_takeBack ∈ mo_B := mo_tb5 153 rfl rfl
theorem mo_wi_yX5_takeBack : Cond.instanceMethod yX5_takeBack ∈ mo_B := mo_tb5 155 rfl rfl
theorem mo_wc_yX5_takeBack : Cond.code yX5_takeBack cX5_takeBack 2 none ∈ mo_B := mo_tb5 156 rfl rfl
theorem mo_wm_L_174 : Cond.methodLink RL 174 yX5_settledIn ∈ mo_B := mo_tb5 157 rfl rfl
theorem mo_wi_yX5_settledIn : Cond.instanceMethod yX5_settledIn ∈ mo_B := mo_tb5 158 rfl rfl
theorem mo_wl_yX5_settledIn : Cond.selects RX5 yX5_settledIn yX5_settledIn ∈ mo_B := mo_tb5 159 rfl rfl
theorem mo_wc_yX5_settledIn : Cond.code yX5_settledIn cX5_settledIn 1 (some .int) ∈ mo_B := mo_tb5 160 rfl rfl
theorem mo_wm_X5_206 : Cond.methodLink RX5 206 yX5_settled ∈ mo_B := mo_tb5 161 rfl rfl
theorem mo_wi_yX5_settled : Cond.instanceMethod yX5_settled ∈ mo_B := mo_tb5 163 rfl rfl
theorem mo_wc_yX5_settled : Cond.code yX5_settled cX5_settled 5 (some .int) ∈ mo_B := mo_tb5 164 rfl rfl
theorem mo_wm_X5_203 : Cond.methodLink RX5 203 yX5_holdsAll ∈ mo_B := mo_tb5 165 rfl rfl
theorem mo_wi_yX5_holdsAll : Cond.instanceMethod yX5_holdsAll ∈ mo_B := mo_tb5 167 rfl rfl
theorem mo_wc_yX5_holdsAll : Cond.code yX5_holdsAll cX5_holdsAll 2 none ∈ mo_B := mo_tb5 168 rfl rfl
theorem mo_wm_L_177 : Cond.methodLink RL 177 yX5_gainBy ∈ mo_B := mo_tb5 169 rfl rfl
theorem mo_wi_yX5_gainBy : Cond.instanceMethod yX5_gainBy ∈ mo_B := mo_tb5 170 rfl rfl
theorem mo_wl_yX5_gainBy : Cond.selects RX5 yX5_gainBy yX5_gainBy ∈ mo_B := mo_tb5 171 rfl rfl
theorem mo_wc_yX5_gainBy : Cond.code yX5_gainBy cX5_gainBy 6 (some .int) ∈ mo_B := mo_tb5 172 rfl rfl
theorem mo_wm_L_182 : Cond.methodLink RL 182 yX5_kept ∈ mo_B := mo_tb5 173 rfl rfl
theorem mo_wi_yX5_kept : Cond.instanceMethod yX5_kept ∈ mo_B := mo_tb5 174 rfl rfl
theorem mo_wl_yX5_kept : Cond.selects RX5 yX5_kept yX5_kept ∈ mo_B := mo_tb5 175 rfl rfl
theorem mo_wc_yX5_kept : Cond.code yX5_kept cX5_kept 2 (some .double) ∈ mo_B := mo_tb5 176 rfl rfl
theorem mo_wm_L_185 : Cond.methodLink RL 185 yX5_append ∈ mo_B := mo_tb5 177 rfl rfl
theorem mo_wi_yX5_append : Cond.instanceMethod yX5_append ∈ mo_B := mo_tb5 178 rfl rfl
theorem mo_wl_yX5_append : Cond.selects RX5 yX5_append yX5_append ∈ mo_B := mo_tb5 179 rfl rfl
theorem mo_wc_yX5_append : Cond.code yX5_append cX5_append 2 (some .int) ∈ mo_B := mo_tb5 180 rfl rfl
theorem mo_wk_X5_209 : Cond.constantLong RX5 209 (Int64.ofInt 127) ∈ mo_B := mo_tb5 181 rfl rfl
theorem mo_wm_L_189 : Cond.methodLink RL 189 yX5_clearText ∈ mo_B := mo_tb5 182 rfl rfl
theorem mo_wi_yX5_clearText : Cond.instanceMethod yX5_clearText ∈ mo_B := mo_tb5 183 rfl rfl
theorem mo_wl_yX5_clearText : Cond.selects RX5 yX5_clearText yX5_clearText ∈ mo_B := mo_tb5 184 rfl rfl
theorem mo_wc_yX5_clearText : Cond.code yX5_clearText cX5_clearText 2 (some .int) ∈ mo_B := mo_tb5 185 rfl rfl
theorem mo_wm_L_193 : Cond.methodLink RL 193 yX5_carryOut ∈ mo_B := mo_tb5 186 rfl rfl
theorem mo_wi_yX5_carryOut : Cond.instanceMethod yX5_carryOut ∈ mo_B := mo_tb5 187 rfl rfl
theorem mo_wl_yX5_carryOut : Cond.selects RX5 yX5_carryOut yX5_carryOut ∈ mo_B := mo_tb5 188 rfl rfl
theorem mo_wc_yX5_carryOut : Cond.code yX5_carryOut cX5_carryOut 2 (some .int) ∈ mo_B := mo_tb5 189 rfl rfl
theorem mo_wm_X5_245 : Cond.methodLink RX5 245 yX5_takesOrder ∈ mo_B := mo_tb5 190 rfl rfl
theorem mo_wi_yX5_takesOrder : Cond.instanceMethod yX5_takesOrder ∈ mo_B := mo_tb5 192 rfl rfl
theorem mo_wc_yX5_takesOrder : Cond.code yX5_takesOrder cX5_takesOrder 1 (some .boolean) ∈ mo_B := mo_tb5 193 rfl rfl
theorem mo_wm_X5_217 : Cond.methodLink RX5 217 yX5_here ∈ mo_B := mo_tb5 194 rfl rfl
theorem mo_wi_yX5_here : Cond.instanceMethod yX5_here ∈ mo_B := mo_tb5 196 rfl rfl
theorem mo_wc_yX5_here : Cond.code yX5_here cX5_here 1 (some .int) ∈ mo_B := mo_tb5 197 rfl rfl
theorem mo_wm_X5_238 : Cond.methodLink RX5 238 yX5_takesParts ∈ mo_B := mo_tb5 198 rfl rfl
theorem mo_wi_yX5_takesParts : Cond.instanceMethod yX5_takesParts ∈ mo_B := mo_tb5 200 rfl rfl
theorem mo_wc_yX5_takesParts : Cond.code yX5_takesParts cX5_takesParts 1 (some .boolean) ∈ mo_B := mo_tb5 201 rfl rfl
theorem mo_wm_X5_229 : Cond.methodLink RX5 229 yX5_takesDigit ∈ mo_B := mo_tb5 202 rfl rfl
theorem mo_wi_yX5_takesDigit : Cond.instanceMethod yX5_takesDigit ∈ mo_B := mo_tb5 204 rfl rfl
theorem mo_wc_yX5_takesDigit : Cond.code yX5_takesDigit cX5_takesDigit 2 (some .boolean) ∈ mo_B := mo_tb5 205 rfl rfl
theorem mo_wk_X5_220 : Cond.constantLong RX5 220 (Int64.ofInt 48) ∈ mo_B := mo_tb5 206 rfl rfl
theorem mo_wk_X5_222 : Cond.constantLong RX5 222 (Int64.ofInt 55) ∈ mo_B := mo_tb5 207 rfl rfl
theorem mo_wm_X5_232 : Cond.methodLink RX5 232 yX5_takesNumber ∈ mo_B := mo_tb5 208 rfl rfl
theorem mo_wi_yX5_takesNumber : Cond.instanceMethod yX5_takesNumber ∈ mo_B := mo_tb5 210 rfl rfl
theorem mo_wc_yX5_takesNumber : Cond.code yX5_takesNumber cX5_takesNumber 5 (some .boolean) ∈ mo_B := mo_tb5 211 rfl rfl
theorem mo_wk_X5_224 : Cond.constantLong RX5 224 (Int64.ofInt 57) ∈ mo_B := mo_tb5 212 rfl rfl
theorem mo_wm_X5_235 : Cond.methodLink RX5 235 yX5_takesByte ∈ mo_B := mo_tb5 213 rfl rfl
theorem mo_wi_yX5_takesByte : Cond.instanceMethod yX5_takesByte ∈ mo_B := mo_tb5 215 rfl rfl
theorem mo_wc_yX5_takesByte : Cond.code yX5_takesByte cX5_takesByte 3 (some .boolean) ∈ mo_B := mo_tb5 216 rfl rfl
theorem mo_wm_X5_248 : Cond.methodLink RX5 248 yX5_does ∈ mo_B := mo_tb5 217 rfl rfl
theorem mo_wi_yX5_does : Cond.instanceMethod yX5_does ∈ mo_B := mo_tb5 219 rfl rfl
theorem mo_wc_yX5_does : Cond.code yX5_does cX5_does 3 (some .boolean) ∈ mo_B := mo_tb5 220 rfl rfl
theorem mo_wm_X5_242 : Cond.methodLink RX5 242 yX5_changesOrder ∈ mo_B := mo_tb5 221 rfl rfl
theorem mo_wi_yX5_changesOrder : Cond.instanceMethod yX5_changesOrder ∈ mo_B := mo_tb5 223 rfl rfl
theorem mo_wc_yX5_changesOrder : Cond.code yX5_changesOrder cX5_changesOrder 1 (some .boolean) ∈ mo_B := mo_tb5 224 rfl rfl
theorem mo_wm_L_196 : Cond.methodLink RL 196 yX5_undo ∈ mo_B := mo_tb5 225 rfl rfl
theorem mo_wi_yX5_undo : Cond.instanceMethod yX5_undo ∈ mo_B := mo_tb5 226 rfl rfl
theorem mo_wl_yX5_undo : Cond.selects RX5 yX5_undo yX5_undo ∈ mo_B := mo_tb5 227 rfl rfl
theorem mo_wc_yX5_undo : Cond.code yX5_undo cX5_undo 2 (some .int) ∈ mo_B := mo_tb5 228 rfl rfl
theorem mo_wm_L_201 : Cond.methodLink RL 201 yX5_digest ∈ mo_B := mo_tb5 229 rfl rfl
theorem mo_wi_yX5_digest : Cond.instanceMethod yX5_digest ∈ mo_B := mo_tb5 230 rfl rfl
theorem mo_wl_yX5_digest : Cond.selects RX5 yX5_digest yX5_digest ∈ mo_B := mo_tb5 231 rfl rfl
theorem mo_wc_yX5_digest : Cond.code yX5_digest cX5_digest 2 (some .long) ∈ mo_B := mo_tb5 232 rfl rfl
theorem mo_wk_X5_260 : Cond.constantLong RX5 260 (Int64.ofInt 3739) ∈ mo_B := mo_tb5 233 rfl rfl
theorem mo_wm_X5_257 : Cond.methodLink RX5 257 yX5_adds ∈ mo_B := mo_tb5 234 rfl rfl
theorem mo_wi_yX5_adds : Cond.instanceMethod yX5_adds ∈ mo_B := mo_tb5 236 rfl rfl
theorem mo_wc_yX5_adds : Cond.code yX5_adds cX5_adds 2 none ∈ mo_B := mo_tb5 237 rfl rfl
theorem mo_wk_X5_251 : Cond.constantLong RX5 251 (Int64.ofInt 31) ∈ mo_B := mo_tb5 238 rfl rfl
theorem mo_wm_X5_262 : Cond.methodLink RX5 262 yX5_addsOrder ∈ mo_B := mo_tb5 239 rfl rfl
theorem mo_wi_yX5_addsOrder : Cond.instanceMethod yX5_addsOrder ∈ mo_B := mo_tb6 1 rfl rfl
theorem mo_wc_yX5_addsOrder : Cond.code yX5_addsOrder cX5_addsOrder 3 none ∈ mo_B := mo_tb6 2 rfl rfl
theorem mo_wl_yX3_greatestDebt : Cond.selects RX3 yX3_greatestDebt yX3_greatestDebt ∈ mo_B := mo_pv1 0 rfl rfl
theorem mo_wl_yX3_freestEscort : Cond.selects RX3 yX3_freestEscort yX3_freestEscort ∈ mo_B := mo_pv1 1 rfl rfl
theorem mo_wl_yX3_firstVenue : Cond.selects RX3 yX3_firstVenue yX3_firstVenue ∈ mo_B := mo_pv1 2 rfl rfl
theorem mo_wl_yX0_readOrder : Cond.selects RX0 yX0_readOrder yX0_readOrder ∈ mo_B := mo_pv1 3 rfl rfl
theorem mo_wl_yX0_byteHere : Cond.selects RX0 yX0_byteHere yX0_byteHere ∈ mo_B := mo_pv1 4 rfl rfl
theorem mo_wl_yX0_readDigit : Cond.selects RX0 yX0_readDigit yX0_readDigit ∈ mo_B := mo_pv1 5 rfl rfl
theorem mo_wl_yX0_isDigitHere : Cond.selects RX0 yX0_isDigitHere yX0_isDigitHere ∈ mo_B := mo_pv1 6 rfl rfl
theorem mo_wl_yX0_readNumber : Cond.selects RX0 yX0_readNumber yX0_readNumber ∈ mo_B := mo_pv1 7 rfl rfl
theorem mo_wl_yX0_readSign : Cond.selects RX0 yX0_readSign yX0_readSign ∈ mo_B := mo_pv1 8 rfl rfl
theorem mo_wl_yX4_save : Cond.selects RX4 yX4_save yX4_save ∈ mo_B := mo_pv1 9 rfl rfl
theorem mo_wl_yX4_carryOutOne : Cond.selects RX4 yX4_carryOutOne yX4_carryOutOne ∈ mo_B := mo_pv1 10 rfl rfl
theorem mo_wl_yX4_mayChange : Cond.selects RX4 yX4_mayChange yX4_mayChange ∈ mo_B := mo_pv1 11 rfl rfl
theorem mo_wl_yX4_settleIfOpen : Cond.selects RX4 yX4_settleIfOpen yX4_settleIfOpen ∈ mo_B := mo_pv1 12 rfl rfl
theorem mo_wl_yX4_digestOfOrder : Cond.selects RX4 yX4_digestOfOrder yX4_digestOfOrder ∈ mo_B := mo_pv1 14 rfl rfl
theorem mo_wl_yX4_digestOfMeeting : Cond.selects RX4 yX4_digestOfMeeting yX4_digestOfMeeting ∈ mo_B := mo_pv1 15 rfl rfl
theorem mo_wl_yX4_reasonAgainst : Cond.selects RX4 yX4_reasonAgainst yX4_reasonAgainst ∈ mo_B := mo_pv2 0 rfl rfl
theorem mo_wl_yX5_areVenues : Cond.selects RX5 yX5_areVenues yX5_areVenues ∈ mo_B := mo_pv2 1 rfl rfl
theorem mo_wl_yX5_goes : Cond.selects RX5 yX5_goes yX5_goes ∈ mo_B := mo_pv2 2 rfl rfl
theorem mo_wl_yX5_save : Cond.selects RX5 yX5_save yX5_save ∈ mo_B := mo_pv2 3 rfl rfl
theorem mo_wl_yX5_isOrder : Cond.selects RX5 yX5_isOrder yX5_isOrder ∈ mo_B := mo_pv2 4 rfl rfl
theorem mo_wl_yX5_mayChange : Cond.selects RX5 yX5_mayChange yX5_mayChange ∈ mo_B := mo_pv2 5 rfl rfl
theorem mo_wl_yX5_changes : Cond.selects RX5 yX5_changes yX5_changes ∈ mo_B := mo_pv2 6 rfl rfl
theorem mo_wl_yX5_exchange : Cond.selects RX5 yX5_exchange yX5_exchange ∈ mo_B := mo_pv2 7 rfl rfl
theorem mo_wl_yX5_isEscort : Cond.selects RX5 yX5_isEscort yX5_isEscort ∈ mo_B := mo_pv2 8 rfl rfl
theorem mo_wl_yX5_areThere : Cond.selects RX5 yX5_areThere yX5_areThere ∈ mo_B := mo_pv2 9 rfl rfl
theorem mo_wl_yX5_isVenue : Cond.selects RX5 yX5_isVenue yX5_isVenue ∈ mo_B := mo_pv2 10 rfl rfl
theorem mo_wl_yX5_reason : Cond.selects RX5 yX5_reason yX5_reason ∈ mo_B := mo_pv2 11 rfl rfl
theorem mo_wl_yX5_look : Cond.selects RX5 yX5_look yX5_look ∈ mo_B := mo_pv2 12 rfl rfl
theorem mo_wl_yX5_stands : Cond.selects RX5 yX5_stands yX5_stands ∈ mo_B := mo_pv2 13 rfl rfl
theorem mo_wl_yX5_of : Cond.selects RX5 yX5_of yX5_of ∈ mo_B := mo_pv2 14 rfl rfl
theorem mo_wl_yX5_whyEscort : Cond.selects RX5 yX5_whyEscort yX5_whyEscort ∈ mo_B := mo_pv2 15 rfl rfl
theorem mo_wl_yX5_lays : Cond.selects RX5 yX5_lays yX5_lays ∈ mo_B := mo_pv3 0 rfl rfl
theorem mo_wl_yX5_plans : Cond.selects RX5 yX5_plans yX5_plans ∈ mo_B := mo_pv3 1 rfl rfl
theorem mo_wl_yX5_plansOne : Cond.selects RX5 yX5_plansOne yX5_plansOne ∈ mo_B := mo_pv3 2 rfl rfl
theorem mo_wl_yX5_owes : Cond.selects RX5 yX5_owes yX5_owes ∈ mo_B := mo_pv3 3 rfl rfl
theorem mo_wl_yX5_slotFor : Cond.selects RX5 yX5_slotFor yX5_slotFor ∈ mo_B := mo_pv3 4 rfl rfl
theorem mo_wl_yX5_venueFor : Cond.selects RX5 yX5_venueFor yX5_venueFor ∈ mo_B := mo_pv3 5 rfl rfl
theorem mo_wl_yX5_escortFor : Cond.selects RX5 yX5_escortFor yX5_escortFor ∈ mo_B := mo_pv3 6 rfl rfl
theorem mo_wl_yX5_placeOf : Cond.selects RX5 yX5_placeOf yX5_placeOf ∈ mo_B := mo_pv3 7 rfl rfl
theorem mo_wl_yX5_takeOut : Cond.selects RX5 yX5_takeOut yX5_takeOut ∈ mo_B := mo_pv3 8 rfl rfl
theorem mo_wl_yX5_mayTell : Cond.selects RX5 yX5_mayTell yX5_mayTell ∈ mo_B := mo_pv3 9 rfl rfl
theorem mo_wl_yX5_tells : Cond.selects RX5 yX5_tells yX5_tells ∈ mo_B := mo_pv3 10 rfl rfl
theorem mo_wl_yX5_holds : Cond.selects RX5 yX5_holds yX5_holds ∈ mo_B := mo_pv3 11 rfl rfl
theorem mo_wl_yX5_misses : Cond.selects RX5 yX5_misses yX5_misses ∈ mo_B := mo_pv3 12 rfl rfl
theorem mo_wl_yX5_ends : Cond.selects RX5 yX5_ends yX5_ends ∈ mo_B := mo_pv3 13 rfl rfl
theorem mo_wl_yX5_orderValue : Cond.selects RX5 yX5_orderValue yX5_orderValue ∈ mo_B := mo_pv3 14 rfl rfl
theorem mo_wl_yX5_plannedOf : Cond.selects RX5 yX5_plannedOf yX5_plannedOf ∈ mo_B := mo_pv3 15 rfl rfl
theorem mo_wl_yX5_hoursOf : Cond.selects RX5 yX5_hoursOf yX5_hoursOf ∈ mo_B := mo_pv4 0 rfl rfl
theorem mo_wl_yX5_escortValue : Cond.selects RX5 yX5_escortValue yX5_escortValue ∈ mo_B := mo_pv4 1 rfl rfl
theorem mo_wl_yX5_manyNow : Cond.selects RX5 yX5_manyNow yX5_manyNow ∈ mo_B := mo_pv4 2 rfl rfl
theorem mo_wl_yX5_numberOf : Cond.selects RX5 yX5_numberOf yX5_numberOf ∈ mo_B := mo_pv4 3 rfl rfl
theorem mo_wl_yX5_owedByAll : Cond.selects RX5 yX5_owedByAll yX5_owedByAll ∈ mo_B := mo_pv4 4 rfl rfl
theorem mo_wl_yX5_layAside : Cond.selects RX5 yX5_layAside yX5_layAside ∈ mo_B := mo_pv4 5 rfl rfl
theorem mo_wl_yX5_takeBack : Cond.selects RX5 yX5_takeBack yX5_takeBack ∈ mo_B := mo_pv4 6 rfl rfl
theorem mo_wl_yX5_settled : Cond.selects RX5 yX5_settled yX5_settled ∈ mo_B := mo_pv4 7 rfl rfl
theorem mo_wl_yX5_holdsAll : Cond.selects RX5 yX5_holdsAll yX5_holdsAll ∈ mo_B := mo_pv4 8 rfl rfl
theorem mo_wl_yX5_takesOrder : Cond.selects RX5 yX5_takesOrder yX5_takesOrder ∈ mo_B := mo_pv4 9 rfl rfl
theorem mo_wl_yX5_here : Cond.selects RX5 yX5_here yX5_here ∈ mo_B := mo_pv4 10 rfl rfl
theorem mo_wl_yX5_takesParts : Cond.selects RX5 yX5_takesParts yX5_takesParts ∈ mo_B := mo_pv4 11 rfl rfl
theorem mo_wl_yX5_takesDigit : Cond.selects RX5 yX5_takesDigit yX5_takesDigit ∈ mo_B := mo_pv4 12 rfl rfl
theorem mo_wl_yX5_takesNumber : Cond.selects RX5 yX5_takesNumber yX5_takesNumber ∈ mo_B := mo_pv4 13 rfl rfl
theorem mo_wl_yX5_takesByte : Cond.selects RX5 yX5_takesByte yX5_takesByte ∈ mo_B := mo_pv4 14 rfl rfl
theorem mo_wl_yX5_does : Cond.selects RX5 yX5_does yX5_does ∈ mo_B := mo_pv4 15 rfl rfl
theorem mo_wl_yX5_changesOrder : Cond.selects RX5 yX5_changesOrder yX5_changesOrder ∈ mo_B := mo_pv5 0 rfl rfl
theorem mo_wl_yX5_adds : Cond.selects RX5 yX5_adds yX5_adds ∈ mo_B := mo_pv5 1 rfl rfl
theorem mo_wl_yX5_addsOrder : Cond.selects RX5 yX5_addsOrder yX5_addsOrder ∈ mo_B := mo_pv5 2 rfl rfl
theorem mo_k_L_7 : mo_LkV RL 7 RX4 yX4_addOrder cX4_addOrder 3 (some .int) := ⟨mo_wm_L_7, mo_wi_yX4_addOrder, mo_wl_yX4_addOrder, mo_wz_X4, mo_wc_yX4_addOrder⟩
theorem mo_k_L_17 : mo_LkV RL 17 RX4 yX4_change cX4_change 5 (some .int) := ⟨mo_wm_L_17, mo_wi_yX4_change, mo_wl_yX4_change, mo_wz_X4, mo_wc_yX4_change⟩
theorem mo_k_L_23 : mo_LkV RL 23 RX4 yX4_allow cX4_allow 4 (some .int) := ⟨mo_wm_L_23, mo_wi_yX4_allow, mo_wl_yX4_allow, mo_wz_X4, mo_wc_yX4_allow⟩
theorem mo_k_L_26 : mo_LkV RL 26 RX4 yX4_addEscort cX4_addEscort 3 (some .int) := ⟨mo_wm_L_26, mo_wi_yX4_addEscort, mo_wl_yX4_addEscort, mo_wz_X4, mo_wc_yX4_addEscort⟩
theorem mo_k_L_29 : mo_LkV RL 29 RX4 yX4_setSlots cX4_setSlots 4 (some .int) := ⟨mo_wm_L_29, mo_wi_yX4_setSlots, mo_wl_yX4_setSlots, mo_wz_X4, mo_wc_yX4_setSlots⟩
theorem mo_k_L_32 : mo_LkV RL 32 RX4 yX4_addVenue cX4_addVenue 2 (some .int) := ⟨mo_wm_L_32, mo_wi_yX4_addVenue, mo_wl_yX4_addVenue, mo_wz_X4, mo_wc_yX4_addVenue⟩
theorem mo_k_L_36 : mo_LkV RL 36 RX4 yX4_plan cX4_plan 6 (some .int) := ⟨mo_wm_L_36, mo_wi_yX4_plan, mo_wl_yX4_plan, mo_wz_X4, mo_wc_yX4_plan⟩
theorem mo_k_L_40 : mo_LkV RL 40 RX4 yX4_planWeek cX4_planWeek 2 (some .int) := ⟨mo_wm_L_40, mo_wi_yX4_planWeek, mo_wl_yX4_planWeek, mo_wz_X4, mo_wc_yX4_planWeek⟩
theorem mo_k_L_43 : mo_LkV RL 43 RX4 yX4_cancel cX4_cancel 4 (some .int) := ⟨mo_wm_L_43, mo_wi_yX4_cancel, mo_wl_yX4_cancel, mo_wz_X4, mo_wc_yX4_cancel⟩
theorem mo_k_L_46 : mo_LkV RL 46 RX4 yX4_tell cX4_tell 4 (some .int) := ⟨mo_wm_L_46, mo_wi_yX4_tell, mo_wl_yX4_tell, mo_wz_X4, mo_wc_yX4_tell⟩
theorem mo_k_L_50 : mo_LkV RL 50 RX4 yX4_endWeek cX4_endWeek 2 (some .int) := ⟨mo_wm_L_50, mo_wi_yX4_endWeek, mo_wl_yX4_endWeek, mo_wz_X4, mo_wc_yX4_endWeek⟩
theorem mo_k_L_54 : mo_LkV RL 54 RX4 yX4_order cX4_order 3 (some .int) := ⟨mo_wm_L_54, mo_wi_yX4_order, mo_wl_yX4_order, mo_wz_X4, mo_wc_yX4_order⟩
theorem mo_k_L_57 : mo_LkV RL 57 RX4 yX4_hours cX4_hours 3 (some .int) := ⟨mo_wm_L_57, mo_wi_yX4_hours, mo_wl_yX4_hours, mo_wz_X4, mo_wc_yX4_hours⟩
theorem mo_k_L_60 : mo_LkV RL 60 RX4 yX4_owed cX4_owed 3 (some .int) := ⟨mo_wm_L_60, mo_wi_yX4_owed, mo_wl_yX4_owed, mo_wz_X4, mo_wc_yX4_owed⟩
theorem mo_k_L_63 : mo_LkV RL 63 RX4 yX4_meeting cX4_meeting 4 (some .int) := ⟨mo_wm_L_63, mo_wi_yX4_meeting, mo_wl_yX4_meeting, mo_wz_X4, mo_wc_yX4_meeting⟩
theorem mo_k_L_66 : mo_LkV RL 66 RX4 yX4_escort cX4_escort 3 (some .int) := ⟨mo_wm_L_66, mo_wi_yX4_escort, mo_wl_yX4_escort, mo_wz_X4, mo_wc_yX4_escort⟩
theorem mo_k_L_69 : mo_LkV RL 69 RX4 yX4_freeRooms cX4_freeRooms 4 (some .int) := ⟨mo_wm_L_69, mo_wi_yX4_freeRooms, mo_wl_yX4_freeRooms, mo_wz_X4, mo_wc_yX4_freeRooms⟩
theorem mo_k_L_72 : mo_LkV RL 72 RX4 yX4_value cX4_value 2 (some .int) := ⟨mo_wm_L_72, mo_wi_yX4_value, mo_wl_yX4_value, mo_wz_X4, mo_wc_yX4_value⟩
theorem mo_k_L_75 : mo_LkV RL 75 RX4 yX4_why cX4_why 6 (some .int) := ⟨mo_wm_L_75, mo_wi_yX4_why, mo_wl_yX4_why, mo_wz_X4, mo_wc_yX4_why⟩
theorem mo_k_L_78 : mo_LkV RL 78 RX4 yX4_firstSlot cX4_firstSlot 3 (some .int) := ⟨mo_wm_L_78, mo_wi_yX4_firstSlot, mo_wl_yX4_firstSlot, mo_wz_X4, mo_wc_yX4_firstSlot⟩
theorem mo_k_L_81 : mo_LkV RL 81 RX4 yX4_owedBehind cX4_owedBehind 2 (some .int) := ⟨mo_wm_L_81, mo_wi_yX4_owedBehind, mo_wl_yX4_owedBehind, mo_wz_X4, mo_wc_yX4_owedBehind⟩
theorem mo_k_L_84 : mo_LkV RL 84 RX4 yX4_gainBy cX4_gainBy 4 (some .int) := ⟨mo_wm_L_84, mo_wi_yX4_gainBy, mo_wl_yX4_gainBy, mo_wz_X4, mo_wc_yX4_gainBy⟩
theorem mo_k_L_87 : mo_LkV RL 87 RX4 yX4_append cX4_append 2 (some .int) := ⟨mo_wm_L_87, mo_wi_yX4_append, mo_wl_yX4_append, mo_wz_X4, mo_wc_yX4_append⟩
theorem mo_k_L_90 : mo_LkV RL 90 RX4 yX4_undo cX4_undo 1 (some .int) := ⟨mo_wm_L_90, mo_wi_yX4_undo, mo_wl_yX4_undo, mo_wz_X4, mo_wc_yX4_undo⟩
theorem mo_k_L_93 : mo_LkI RL 93 yX4_init cX4_init 2 := ⟨mo_wm_L_93, mo_wi_yX4_init, mo_wz_X4, mo_wc_yX4_init⟩
theorem mo_k_L_96 : mo_LkI RL 96 yX5_init cX5_init 1 := ⟨mo_wm_L_96, mo_wi_yX5_init, mo_wz_X5, mo_wc_yX5_init⟩
theorem mo_k_L_102 : mo_LkV RL 102 RX5 yX5_addOrder cX5_addOrder 5 (some .int) := ⟨mo_wm_L_102, mo_wi_yX5_addOrder, mo_wl_yX5_addOrder, mo_wz_X5, mo_wc_yX5_addOrder⟩
theorem mo_k_L_103 : mo_LkV RL 103 RX5 yX5_thrown cX5_thrown 1 (some .int) := ⟨mo_wm_L_103, mo_wi_yX5_thrown, mo_wl_yX5_thrown, mo_wz_X5, mo_wc_yX5_thrown⟩
theorem mo_k_L_109 : mo_LkV RL 109 RX5 yX5_change cX5_change 5 (some .int) := ⟨mo_wm_L_109, mo_wi_yX5_change, mo_wl_yX5_change, mo_wz_X5, mo_wc_yX5_change⟩
theorem mo_k_L_112 : mo_LkV RL 112 RX5 yX5_allow cX5_allow 3 (some .int) := ⟨mo_wm_L_112, mo_wi_yX5_allow, mo_wl_yX5_allow, mo_wz_X5, mo_wc_yX5_allow⟩
theorem mo_k_L_115 : mo_LkV RL 115 RX5 yX5_addEscort cX5_addEscort 4 (some .int) := ⟨mo_wm_L_115, mo_wi_yX5_addEscort, mo_wl_yX5_addEscort, mo_wz_X5, mo_wc_yX5_addEscort⟩
theorem mo_k_L_118 : mo_LkV RL 118 RX5 yX5_setSlots cX5_setSlots 3 (some .int) := ⟨mo_wm_L_118, mo_wi_yX5_setSlots, mo_wl_yX5_setSlots, mo_wz_X5, mo_wc_yX5_setSlots⟩
theorem mo_k_L_122 : mo_LkV RL 122 RX5 yX5_addVenue cX5_addVenue 3 (some .int) := ⟨mo_wm_L_122, mo_wi_yX5_addVenue, mo_wl_yX5_addVenue, mo_wz_X5, mo_wc_yX5_addVenue⟩
theorem mo_k_L_126 : mo_LkV RL 126 RX5 yX5_plan cX5_plan 8 (some .int) := ⟨mo_wm_L_126, mo_wi_yX5_plan, mo_wl_yX5_plan, mo_wz_X5, mo_wc_yX5_plan⟩
theorem mo_k_L_129 : mo_LkV RL 129 RX5 yX5_planWeek cX5_planWeek 2 (some .int) := ⟨mo_wm_L_129, mo_wi_yX5_planWeek, mo_wl_yX5_planWeek, mo_wz_X5, mo_wc_yX5_planWeek⟩
theorem mo_k_L_132 : mo_LkV RL 132 RX5 yX5_cancel cX5_cancel 4 (some .int) := ⟨mo_wm_L_132, mo_wi_yX5_cancel, mo_wl_yX5_cancel, mo_wz_X5, mo_wc_yX5_cancel⟩
theorem mo_k_L_136 : mo_LkV RL 136 RX5 yX5_tell cX5_tell 4 (some .int) := ⟨mo_wm_L_136, mo_wi_yX5_tell, mo_wl_yX5_tell, mo_wz_X5, mo_wc_yX5_tell⟩
theorem mo_k_L_140 : mo_LkV RL 140 RX5 yX5_endWeek cX5_endWeek 1 (some .int) := ⟨mo_wm_L_140, mo_wi_yX5_endWeek, mo_wl_yX5_endWeek, mo_wz_X5, mo_wc_yX5_endWeek⟩
theorem mo_k_L_143 : mo_LkV RL 143 RX5 yX5_order cX5_order 3 (some .int) := ⟨mo_wm_L_143, mo_wi_yX5_order, mo_wl_yX5_order, mo_wz_X5, mo_wc_yX5_order⟩
theorem mo_k_L_146 : mo_LkV RL 146 RX5 yX5_hours cX5_hours 3 (some .int) := ⟨mo_wm_L_146, mo_wi_yX5_hours, mo_wl_yX5_hours, mo_wz_X5, mo_wc_yX5_hours⟩
theorem mo_k_L_149 : mo_LkV RL 149 RX5 yX5_owed cX5_owed 3 (some .int) := ⟨mo_wm_L_149, mo_wi_yX5_owed, mo_wl_yX5_owed, mo_wz_X5, mo_wc_yX5_owed⟩
theorem mo_k_L_152 : mo_LkV RL 152 RX5 yX5_meeting cX5_meeting 4 (some .int) := ⟨mo_wm_L_152, mo_wi_yX5_meeting, mo_wl_yX5_meeting, mo_wz_X5, mo_wc_yX5_meeting⟩
theorem mo_k_L_155 : mo_LkV RL 155 RX5 yX5_escort cX5_escort 3 (some .int) := ⟨mo_wm_L_155, mo_wi_yX5_escort, mo_wl_yX5_escort, mo_wz_X5, mo_wc_yX5_escort⟩
theorem mo_k_L_158 : mo_LkV RL 158 RX5 yX5_freeRooms cX5_freeRooms 4 (some .int) := ⟨mo_wm_L_158, mo_wi_yX5_freeRooms, mo_wl_yX5_freeRooms, mo_wz_X5, mo_wc_yX5_freeRooms⟩
theorem mo_k_L_161 : mo_LkV RL 161 RX5 yX5_value cX5_value 2 (some .int) := ⟨mo_wm_L_161, mo_wi_yX5_value, mo_wl_yX5_value, mo_wz_X5, mo_wc_yX5_value⟩
theorem mo_k_L_164 : mo_LkV RL 164 RX5 yX5_why cX5_why 7 (some .int) := ⟨mo_wm_L_164, mo_wi_yX5_why, mo_wl_yX5_why, mo_wz_X5, mo_wc_yX5_why⟩
theorem mo_k_L_167 : mo_LkV RL 167 RX5 yX5_firstSlot cX5_firstSlot 3 (some .int) := ⟨mo_wm_L_167, mo_wi_yX5_firstSlot, mo_wl_yX5_firstSlot, mo_wz_X5, mo_wc_yX5_firstSlot⟩
theorem mo_k_L_170 : mo_LkV RL 170 RX5 yX5_owedBehind cX5_owedBehind 4 (some .int) := ⟨mo_wm_L_170, mo_wi_yX5_owedBehind, mo_wl_yX5_owedBehind, mo_wz_X5, mo_wc_yX5_owedBehind⟩
theorem mo_k_L_171 : mo_LkV RL 171 RX4 yX4_settledIn cX4_settledIn 2 (some .int) := ⟨mo_wm_L_171, mo_wi_yX4_settledIn, mo_wl_yX4_settledIn, mo_wz_X4, mo_wc_yX4_settledIn⟩
theorem mo_k_L_174 : mo_LkV RL 174 RX5 yX5_settledIn cX5_settledIn 1 (some .int) := ⟨mo_wm_L_174, mo_wi_yX5_settledIn, mo_wl_yX5_settledIn, mo_wz_X5, mo_wc_yX5_settledIn⟩
theorem mo_k_L_177 : mo_LkV RL 177 RX5 yX5_gainBy cX5_gainBy 6 (some .int) := ⟨mo_wm_L_177, mo_wi_yX5_gainBy, mo_wl_yX5_gainBy, mo_wz_X5, mo_wc_yX5_gainBy⟩
theorem mo_k_L_178 : mo_LkV RL 178 RX4 yX4_kept cX4_kept 3 (some .double) := ⟨mo_wm_L_178, mo_wi_yX4_kept, mo_wl_yX4_kept, mo_wz_X4, mo_wc_yX4_kept⟩
theorem mo_k_L_182 : mo_LkV RL 182 RX5 yX5_kept cX5_kept 2 (some .double) := ⟨mo_wm_L_182, mo_wi_yX5_kept, mo_wl_yX5_kept, mo_wz_X5, mo_wc_yX5_kept⟩
theorem mo_k_L_185 : mo_LkV RL 185 RX5 yX5_append cX5_append 2 (some .int) := ⟨mo_wm_L_185, mo_wi_yX5_append, mo_wl_yX5_append, mo_wz_X5, mo_wc_yX5_append⟩
theorem mo_k_L_186 : mo_LkV RL 186 RX4 yX4_clearText cX4_clearText 2 (some .int) := ⟨mo_wm_L_186, mo_wi_yX4_clearText, mo_wl_yX4_clearText, mo_wz_X4, mo_wc_yX4_clearText⟩
theorem mo_k_L_189 : mo_LkV RL 189 RX5 yX5_clearText cX5_clearText 2 (some .int) := ⟨mo_wm_L_189, mo_wi_yX5_clearText, mo_wl_yX5_clearText, mo_wz_X5, mo_wc_yX5_clearText⟩
theorem mo_k_L_190 : mo_LkV RL 190 RX4 yX4_carryOut cX4_carryOut 3 (some .int) := ⟨mo_wm_L_190, mo_wi_yX4_carryOut, mo_wl_yX4_carryOut, mo_wz_X4, mo_wc_yX4_carryOut⟩
theorem mo_k_L_193 : mo_LkV RL 193 RX5 yX5_carryOut cX5_carryOut 2 (some .int) := ⟨mo_wm_L_193, mo_wi_yX5_carryOut, mo_wl_yX5_carryOut, mo_wz_X5, mo_wc_yX5_carryOut⟩
theorem mo_k_L_196 : mo_LkV RL 196 RX5 yX5_undo cX5_undo 2 (some .int) := ⟨mo_wm_L_196, mo_wi_yX5_undo, mo_wl_yX5_undo, mo_wz_X5, mo_wc_yX5_undo⟩
theorem mo_k_L_197 : mo_LkV RL 197 RX4 yX4_digest cX4_digest 5 (some .long) := ⟨mo_wm_L_197, mo_wi_yX4_digest, mo_wl_yX4_digest, mo_wz_X4, mo_wc_yX4_digest⟩
theorem mo_k_L_201 : mo_LkV RL 201 RX5 yX5_digest cX5_digest 2 (some .long) := ⟨mo_wm_L_201, mo_wi_yX5_digest, mo_wl_yX5_digest, mo_wz_X5, mo_wc_yX5_digest⟩
theorem mo_k_X0_11 : mo_LkI RX0 11 yX1_init cX1_init 2 := ⟨mo_wm_X0_11, mo_wi_yX1_init, mo_wz_X1, mo_wc_yX1_init⟩
theorem mo_k_X0_36 : mo_LkV RX0 36 RX1 yX1_set cX1_set 3 none := ⟨mo_wm_X0_36, mo_wi_yX1_set, mo_wl_yX1_set, mo_wz_X1, mo_wc_yX1_set⟩
theorem mo_k_X0_46 : mo_LkV RX0 46 RX0 yX0_readOrder cX0_readOrder 2 (some .boolean) := ⟨mo_wm_X0_46, mo_wi_yX0_readOrder, mo_wl_yX0_readOrder, mo_wz_X0, mo_wc_yX0_readOrder⟩
theorem mo_k_X0_50 : mo_LkV RX0 50 RX0 yX0_readSign cX0_readSign 2 (some .boolean) := ⟨mo_wm_X0_50, mo_wi_yX0_readSign, mo_wl_yX0_readSign, mo_wz_X0, mo_wc_yX0_readSign⟩
theorem mo_k_X0_54 : mo_LkV RX0 54 RX0 yX0_byteHere cX0_byteHere 1 (some .int) := ⟨mo_wm_X0_54, mo_wi_yX0_byteHere, mo_wl_yX0_byteHere, mo_wz_X0, mo_wc_yX0_byteHere⟩
theorem mo_k_X0_58 : mo_LkV RX0 58 RX0 yX0_readDigit cX0_readDigit 3 (some .boolean) := ⟨mo_wm_X0_58, mo_wi_yX0_readDigit, mo_wl_yX0_readDigit, mo_wz_X0, mo_wc_yX0_readDigit⟩
theorem mo_k_X0_62 : mo_LkV RX0 62 RX0 yX0_readNumber cX0_readNumber 5 (some .boolean) := ⟨mo_wm_X0_62, mo_wi_yX0_readNumber, mo_wl_yX0_readNumber, mo_wz_X0, mo_wc_yX0_readNumber⟩
theorem mo_k_X0_65 : mo_LkV RX0 65 RX0 yX0_isDigitHere cX0_isDigitHere 1 (some .boolean) := ⟨mo_wm_X0_65, mo_wi_yX0_isDigitHere, mo_wl_yX0_isDigitHere, mo_wz_X0, mo_wc_yX0_isDigitHere⟩
theorem mo_k_X0_68 : mo_LkV RX0 68 RX1 yX1_get cX1_get 2 (some .int) := ⟨mo_wm_X0_68, mo_wi_yX1_get, mo_wl_yX1_get, mo_wz_X1, mo_wc_yX1_get⟩
theorem mo_k_X2_11 : mo_LkI RX2 11 yX1_init cX1_init 2 := ⟨mo_wm_X2_11, mo_wi_yX1_init, mo_wz_X1, mo_wc_yX1_init⟩
theorem mo_k_X2_63 : mo_LkV RX2 63 RX1 yX1_copyFrom cX1_copyFrom 2 none := ⟨mo_wm_X2_63, mo_wi_yX1_copyFrom, mo_wl_yX1_copyFrom, mo_wz_X1, mo_wc_yX1_copyFrom⟩
theorem mo_k_X2_67 : mo_LkV RX2 67 RX2 yX2_setHoursFrom cX2_setHoursFrom 5 none := ⟨mo_wm_X2_67, mo_wi_yX2_setHoursFrom, mo_wl_yX2_setHoursFrom, mo_wz_X2, mo_wc_yX2_setHoursFrom⟩
theorem mo_k_X2_71 : mo_LkV RX2 71 RX1 yX1_set cX1_set 3 none := ⟨mo_wm_X2_71, mo_wi_yX1_set, mo_wl_yX1_set, mo_wz_X1, mo_wc_yX1_set⟩
theorem mo_k_X2_75 : mo_LkV RX2 75 RX1 yX1_get cX1_get 2 (some .int) := ⟨mo_wm_X2_75, mo_wi_yX1_get, mo_wl_yX1_get, mo_wz_X1, mo_wc_yX1_get⟩
theorem mo_k_X2_79 : mo_LkV RX2 79 RX2 yX2_hoursIn cX2_hoursIn 3 (some .int) := ⟨mo_wm_X2_79, mo_wi_yX2_hoursIn, mo_wl_yX2_hoursIn, mo_wz_X2, mo_wc_yX2_hoursIn⟩
theorem mo_k_X2_83 : mo_LkV RX2 83 RX2 yX2_fact cX2_fact 3 (some .int) := ⟨mo_wm_X2_83, mo_wi_yX2_fact, mo_wl_yX2_fact, mo_wz_X2, mo_wc_yX2_fact⟩
theorem mo_k_X2_86 : mo_LkV RX2 86 RX2 yX2_plannedUpTo cX2_plannedUpTo 5 (some .int) := ⟨mo_wm_X2_86, mo_wi_yX2_plannedUpTo, mo_wl_yX2_plannedUpTo, mo_wz_X2, mo_wc_yX2_plannedUpTo⟩
theorem mo_k_X2_89 : mo_LkV RX2 89 RX2 yX2_hoursUpTo cX2_hoursUpTo 5 (some .int) := ⟨mo_wm_X2_89, mo_wi_yX2_hoursUpTo, mo_wl_yX2_hoursUpTo, mo_wz_X2, mo_wc_yX2_hoursUpTo⟩
theorem mo_k_X2_97 : mo_LkV RX2 97 RX2 yX2_debt cX2_debt 4 (some .int) := ⟨mo_wm_X2_97, mo_wi_yX2_debt, mo_wl_yX2_debt, mo_wz_X2, mo_wc_yX2_debt⟩
theorem mo_k_X2_100 : mo_LkV RX2 100 RX2 yX2_takesPlaceIn cX2_takesPlaceIn 3 (some .boolean) := ⟨mo_wm_X2_100, mo_wi_yX2_takesPlaceIn, mo_wl_yX2_takesPlaceIn, mo_wz_X2, mo_wc_yX2_takesPlaceIn⟩
theorem mo_k_X2_104 : mo_LkV RX2 104 RX2 yX2_moveMeeting cX2_moveMeeting 4 none := ⟨mo_wm_X2_104, mo_wi_yX2_moveMeeting, mo_wl_yX2_moveMeeting, mo_wz_X2, mo_wc_yX2_moveMeeting⟩
theorem mo_k_X2_107 : mo_LkV RX2 107 RX1 yX1_add cX1_add 3 none := ⟨mo_wm_X2_107, mo_wi_yX1_add, mo_wl_yX1_add, mo_wz_X1, mo_wc_yX1_add⟩
theorem mo_k_X2_110 : mo_LkV RX2 110 RX2 yX2_isOpen cX2_isOpen 2 (some .boolean) := ⟨mo_wm_X2_110, mo_wi_yX2_isOpen, mo_wl_yX2_isOpen, mo_wz_X2, mo_wc_yX2_isOpen⟩
theorem mo_k_X2_114 : mo_LkV RX2 114 RX2 yX2_settle cX2_settle 4 none := ⟨mo_wm_X2_114, mo_wi_yX2_settle, mo_wl_yX2_settle, mo_wz_X2, mo_wc_yX2_settle⟩
theorem mo_k_X3_11 : mo_LkI RX3 11 yX1_init cX1_init 2 := ⟨mo_wm_X3_11, mo_wi_yX1_init, mo_wz_X1, mo_wc_yX1_init⟩
theorem mo_k_X3_32 : mo_LkV RX3 32 RX1 yX1_clear cX1_clear 2 none := ⟨mo_wm_X3_32, mo_wi_yX1_clear, mo_wl_yX1_clear, mo_wz_X1, mo_wc_yX1_clear⟩
theorem mo_k_X3_41 : mo_LkV RX3 41 RX2 yX2_takesPlaceIn cX2_takesPlaceIn 3 (some .boolean) := ⟨mo_wm_X3_41, mo_wi_yX2_takesPlaceIn, mo_wl_yX2_takesPlaceIn, mo_wz_X2, mo_wc_yX2_takesPlaceIn⟩
theorem mo_k_X3_45 : mo_LkV RX3 45 RX2 yX2_fact cX2_fact 3 (some .int) := ⟨mo_wm_X3_45, mo_wi_yX2_fact, mo_wl_yX2_fact, mo_wz_X2, mo_wc_yX2_fact⟩
theorem mo_k_X3_49 : mo_LkV RX3 49 RX3 yX3_take cX3_take 5 none := ⟨mo_wm_X3_49, mo_wi_yX3_take, mo_wl_yX3_take, mo_wz_X3, mo_wc_yX3_take⟩
theorem mo_k_X3_53 : mo_LkV RX3 53 RX1 yX1_mark cX1_mark 3 none := ⟨mo_wm_X3_53, mo_wi_yX1_mark, mo_wl_yX1_mark, mo_wz_X1, mo_wc_yX1_mark⟩
theorem mo_k_X3_57 : mo_LkV RX3 57 RX1 yX1_add cX1_add 3 none := ⟨mo_wm_X3_57, mo_wi_yX1_add, mo_wl_yX1_add, mo_wz_X1, mo_wc_yX1_add⟩
theorem mo_k_X3_63 : mo_LkV RX3 63 RX1 yX1_get cX1_get 2 (some .int) := ⟨mo_wm_X3_63, mo_wi_yX1_get, mo_wl_yX1_get, mo_wz_X1, mo_wc_yX1_get⟩
theorem mo_k_X3_67 : mo_LkS RX3 67 yX3_isIn cX3_isIn 2 (some .boolean) := ⟨mo_wm_X3_67, mo_wi_yX3_isIn, mo_wz_X3, mo_wc_yX3_isIn⟩
theorem mo_k_X3_76 : mo_LkV RX3 76 RX3 yX3_roomsLeft cX3_roomsLeft 4 (some .int) := ⟨mo_wm_X3_76, mo_wi_yX3_roomsLeft, mo_wl_yX3_roomsLeft, mo_wz_X3, mo_wc_yX3_roomsLeft⟩
theorem mo_k_X3_83 : mo_LkV RX3 83 RX3 yX3_open cX3_open 4 none := ⟨mo_wm_X3_83, mo_wi_yX3_open, mo_wl_yX3_open, mo_wz_X3, mo_wc_yX3_open⟩
theorem mo_k_X3_90 : mo_LkV RX3 90 RX2 yX2_debt cX2_debt 4 (some .int) := ⟨mo_wm_X3_90, mo_wi_yX2_debt, mo_wl_yX2_debt, mo_wz_X2, mo_wc_yX2_debt⟩
theorem mo_k_X3_93 : mo_LkV RX3 93 RX1 yX1_set cX1_set 3 none := ⟨mo_wm_X3_93, mo_wi_yX1_set, mo_wl_yX1_set, mo_wz_X1, mo_wc_yX1_set⟩
theorem mo_k_X3_96 : mo_LkV RX3 96 RX2 yX2_isFull cX2_isFull 1 (some .boolean) := ⟨mo_wm_X3_96, mo_wi_yX2_isFull, mo_wl_yX2_isFull, mo_wz_X2, mo_wc_yX2_isFull⟩
theorem mo_k_X3_100 : mo_LkV RX3 100 RX3 yX3_greatestDebt cX3_greatestDebt 5 (some .int) := ⟨mo_wm_X3_100, mo_wi_yX3_greatestDebt, mo_wl_yX3_greatestDebt, mo_wz_X3, mo_wc_yX3_greatestDebt⟩
theorem mo_k_X3_104 : mo_LkV RX3 104 RX3 yX3_search cX3_search 4 (some .boolean) := ⟨mo_wm_X3_104, mo_wi_yX3_search, mo_wl_yX3_search, mo_wz_X3, mo_wc_yX3_search⟩
theorem mo_k_X3_117 : mo_LkV RX3 117 RX2 yX2_keepMeeting cX2_keepMeeting 7 (some .int) := ⟨mo_wm_X3_117, mo_wi_yX2_keepMeeting, mo_wl_yX2_keepMeeting, mo_wz_X2, mo_wc_yX2_keepMeeting⟩
theorem mo_k_X3_121 : mo_LkV RX3 121 RX3 yX3_freestEscort cX3_freestEscort 7 (some .int) := ⟨mo_wm_X3_121, mo_wi_yX3_freestEscort, mo_wl_yX3_freestEscort, mo_wz_X3, mo_wc_yX3_freestEscort⟩
theorem mo_k_X3_125 : mo_LkV RX3 125 RX3 yX3_firstVenue cX3_firstVenue 5 (some .int) := ⟨mo_wm_X3_125, mo_wi_yX3_firstVenue, mo_wl_yX3_firstVenue, mo_wz_X3, mo_wc_yX3_firstVenue⟩
theorem mo_k_X4_41 : mo_LkS RX4 41 yX4_isHours cX4_isHours 1 (some .boolean) := ⟨mo_wm_X4_41, mo_wi_yX4_isHours, mo_wz_X4, mo_wc_yX4_isHours⟩
theorem mo_k_X4_45 : mo_LkV RX4 45 RX2 yX2_hasAllVenues cX2_hasAllVenues 2 (some .boolean) := ⟨mo_wm_X4_45, mo_wi_yX2_hasAllVenues, mo_wl_yX2_hasAllVenues, mo_wz_X2, mo_wc_yX2_hasAllVenues⟩
theorem mo_k_X4_63 : mo_LkV RX4 63 RX4 yX4_save cX4_save 3 none := ⟨mo_wm_X4_63, mo_wi_yX4_save, mo_wl_yX4_save, mo_wz_X4, mo_wc_yX4_save⟩
theorem mo_k_X4_66 : mo_LkV RX4 66 RX2 yX2_enterOrder cX2_enterOrder 4 (some .int) := ⟨mo_wm_X4_66, mo_wi_yX2_enterOrder, mo_wl_yX2_enterOrder, mo_wz_X2, mo_wc_yX2_enterOrder⟩
theorem mo_k_X4_70 : mo_LkV RX4 70 RX2 yX2_hasOrder cX2_hasOrder 2 (some .boolean) := ⟨mo_wm_X4_70, mo_wi_yX2_hasOrder, mo_wl_yX2_hasOrder, mo_wz_X2, mo_wc_yX2_hasOrder⟩
theorem mo_k_X4_78 : mo_LkV RX4 78 RX4 yX4_mayChange cX4_mayChange 3 (some .boolean) := ⟨mo_wm_X4_78, mo_wi_yX4_mayChange, mo_wl_yX4_mayChange, mo_wz_X4, mo_wc_yX4_mayChange⟩
theorem mo_k_X4_84 : mo_LkV RX4 84 RX2 yX2_hoursIn cX2_hoursIn 3 (some .int) := ⟨mo_wm_X4_84, mo_wi_yX2_hoursIn, mo_wl_yX2_hoursIn, mo_wz_X2, mo_wc_yX2_hoursIn⟩
theorem mo_k_X4_87 : mo_LkV RX4 87 RX2 yX2_setHoursFrom cX2_setHoursFrom 5 none := ⟨mo_wm_X4_87, mo_wi_yX2_setHoursFrom, mo_wl_yX2_setHoursFrom, mo_wz_X2, mo_wc_yX2_setHoursFrom⟩
theorem mo_k_X4_97 : mo_LkV RX4 97 RX1 yX1_get cX1_get 2 (some .int) := ⟨mo_wm_X4_97, mo_wi_yX1_get, mo_wl_yX1_get, mo_wz_X1, mo_wc_yX1_get⟩
theorem mo_k_X4_103 : mo_LkV RX4 103 RX1 yX1_set cX1_set 3 none := ⟨mo_wm_X4_103, mo_wi_yX1_set, mo_wl_yX1_set, mo_wz_X1, mo_wc_yX1_set⟩
theorem mo_k_X4_107 : mo_LkS RX4 107 yX4_isSetOfSlots cX4_isSetOfSlots 1 (some .boolean) := ⟨mo_wm_X4_107, mo_wi_yX4_isSetOfSlots, mo_wz_X4, mo_wc_yX4_isSetOfSlots⟩
theorem mo_k_X4_117 : mo_LkV RX4 117 RX2 yX2_enterEscort cX2_enterEscort 4 (some .int) := ⟨mo_wm_X4_117, mo_wi_yX2_enterEscort, mo_wl_yX2_enterEscort, mo_wz_X2, mo_wc_yX2_enterEscort⟩
theorem mo_k_X4_120 : mo_LkV RX4 120 RX2 yX2_hasEscort cX2_hasEscort 2 (some .boolean) := ⟨mo_wm_X4_120, mo_wi_yX2_hasEscort, mo_wl_yX2_hasEscort, mo_wz_X2, mo_wc_yX2_hasEscort⟩
theorem mo_k_X4_137 : mo_LkV RX4 137 RX2 yX2_enterVenue cX2_enterVenue 3 (some .int) := ⟨mo_wm_X4_137, mo_wi_yX2_enterVenue, mo_wl_yX2_enterVenue, mo_wz_X2, mo_wc_yX2_enterVenue⟩
theorem mo_k_X4_140 : mo_LkV RX4 140 RX2 yX2_hasVenue cX2_hasVenue 2 (some .boolean) := ⟨mo_wm_X4_140, mo_wi_yX2_hasVenue, mo_wl_yX2_hasVenue, mo_wz_X2, mo_wc_yX2_hasVenue⟩
theorem mo_k_X4_145 : mo_LkS RX4 145 yX4_isWeek cX4_isWeek 1 (some .boolean) := ⟨mo_wm_X4_145, mo_wi_yX4_isWeek, mo_wz_X4, mo_wc_yX4_isWeek⟩
theorem mo_k_X4_148 : mo_LkS RX4 148 yX4_isSlot cX4_isSlot 1 (some .boolean) := ⟨mo_wm_X4_148, mo_wi_yX4_isSlot, mo_wz_X4, mo_wc_yX4_isSlot⟩
theorem mo_k_X4_153 : mo_LkV RX4 153 RX4 yX4_reasonAgainst cX4_reasonAgainst 7 (some .int) := ⟨mo_wm_X4_153, mo_wi_yX4_reasonAgainst, mo_wl_yX4_reasonAgainst, mo_wz_X4, mo_wc_yX4_reasonAgainst⟩
theorem mo_k_X4_159 : mo_LkV RX4 159 RX2 yX2_keepMeeting cX2_keepMeeting 7 (some .int) := ⟨mo_wm_X4_159, mo_wi_yX2_keepMeeting, mo_wl_yX2_keepMeeting, mo_wz_X2, mo_wc_yX2_keepMeeting⟩
theorem mo_k_X4_164 : mo_LkV RX4 164 RX2 yX2_isOver cX2_isOver 2 (some .boolean) := ⟨mo_wm_X4_164, mo_wi_yX2_isOver, mo_wl_yX2_isOver, mo_wz_X2, mo_wc_yX2_isOver⟩
theorem mo_k_X4_169 : mo_LkV RX4 169 RX3 yX3_planAll cX3_planAll 6 (some .int) := ⟨mo_wm_X4_169, mo_wi_yX3_planAll, mo_wl_yX3_planAll, mo_wz_X3, mo_wc_yX3_planAll⟩
theorem mo_k_X4_173 : mo_LkV RX4 173 RX2 yX2_placeOf cX2_placeOf 3 (some .int) := ⟨mo_wm_X4_173, mo_wi_yX2_placeOf, mo_wl_yX2_placeOf, mo_wz_X2, mo_wc_yX2_placeOf⟩
theorem mo_k_X4_178 : mo_LkV RX4 178 RX2 yX2_fact cX2_fact 3 (some .int) := ⟨mo_wm_X4_178, mo_wi_yX2_fact, mo_wl_yX2_fact, mo_wz_X2, mo_wc_yX2_fact⟩
theorem mo_k_X4_183 : mo_LkV RX4 183 RX2 yX2_dropMeeting cX2_dropMeeting 3 none := ⟨mo_wm_X4_183, mo_wi_yX2_dropMeeting, mo_wl_yX2_dropMeeting, mo_wz_X2, mo_wc_yX2_dropMeeting⟩
theorem mo_k_X4_187 : mo_LkV RX4 187 RX2 yX2_isOpen cX2_isOpen 2 (some .boolean) := ⟨mo_wm_X4_187, mo_wi_yX2_isOpen, mo_wl_yX2_isOpen, mo_wz_X2, mo_wc_yX2_isOpen⟩
theorem mo_k_X4_192 : mo_LkV RX4 192 RX2 yX2_settle cX2_settle 4 none := ⟨mo_wm_X4_192, mo_wi_yX2_settle, mo_wl_yX2_settle, mo_wz_X2, mo_wc_yX2_settle⟩
theorem mo_k_X4_198 : mo_LkV RX4 198 RX2 yX2_debt cX2_debt 4 (some .int) := ⟨mo_wm_X4_198, mo_wi_yX2_debt, mo_wl_yX2_debt, mo_wz_X2, mo_wc_yX2_debt⟩
theorem mo_k_X4_201 : mo_LkV RX4 201 RX2 yX2_isLastWeek cX2_isLastWeek 1 (some .boolean) := ⟨mo_wm_X4_201, mo_wi_yX2_isLastWeek, mo_wl_yX2_isLastWeek, mo_wz_X2, mo_wc_yX2_isLastWeek⟩
theorem mo_k_X4_207 : mo_LkV RX4 207 RX2 yX2_settleWeek cX2_settleWeek 4 (some .int) := ⟨mo_wm_X4_207, mo_wi_yX2_settleWeek, mo_wl_yX2_settleWeek, mo_wz_X2, mo_wc_yX2_settleWeek⟩
theorem mo_k_X4_210 : mo_LkV RX4 210 RX2 yX2_beginNextWeek cX2_beginNextWeek 3 none := ⟨mo_wm_X4_210, mo_wi_yX2_beginNextWeek, mo_wl_yX2_beginNextWeek, mo_wz_X2, mo_wc_yX2_beginNextWeek⟩
theorem mo_k_X4_219 : mo_LkV RX4 219 RX2 yX2_plannedUpTo cX2_plannedUpTo 5 (some .int) := ⟨mo_wm_X4_219, mo_wi_yX2_plannedUpTo, mo_wl_yX2_plannedUpTo, mo_wz_X2, mo_wc_yX2_plannedUpTo⟩
theorem mo_k_X4_222 : mo_LkV RX4 222 RX2 yX2_hoursUpTo cX2_hoursUpTo 5 (some .int) := ⟨mo_wm_X4_222, mo_wi_yX2_hoursUpTo, mo_wl_yX2_hoursUpTo, mo_wz_X2, mo_wc_yX2_hoursUpTo⟩
theorem mo_k_X4_230 : mo_LkV RX4 230 RX2 yX2_meetingsWith cX2_meetingsWith 5 (some .int) := ⟨mo_wm_X4_230, mo_wi_yX2_meetingsWith, mo_wl_yX2_meetingsWith, mo_wz_X2, mo_wc_yX2_meetingsWith⟩
theorem mo_k_X4_238 : mo_LkV RX4 238 RX3 yX3_open cX3_open 4 none := ⟨mo_wm_X4_238, mo_wi_yX3_open, mo_wl_yX3_open, mo_wz_X3, mo_wc_yX3_open⟩
theorem mo_k_X4_242 : mo_LkV RX4 242 RX3 yX3_roomsLeft cX3_roomsLeft 4 (some .int) := ⟨mo_wm_X4_242, mo_wi_yX3_roomsLeft, mo_wl_yX3_roomsLeft, mo_wz_X3, mo_wc_yX3_roomsLeft⟩
theorem mo_k_X4_252 : mo_LkV RX4 252 RX1 yX1_sum cX1_sum 3 (some .int) := ⟨mo_wm_X4_252, mo_wi_yX1_sum, mo_wl_yX1_sum, mo_wz_X1, mo_wc_yX1_sum⟩
theorem mo_k_X4_256 : mo_LkV RX4 256 RX2 yX2_debtOfAll cX2_debtOfAll 4 (some .int) := ⟨mo_wm_X4_256, mo_wi_yX2_debtOfAll, mo_wl_yX2_debtOfAll, mo_wz_X2, mo_wc_yX2_debtOfAll⟩
theorem mo_k_X4_259 : mo_LkV RX4 259 RX2 yX2_isFull cX2_isFull 1 (some .boolean) := ⟨mo_wm_X4_259, mo_wi_yX2_isFull, mo_wl_yX2_isFull, mo_wz_X2, mo_wc_yX2_isFull⟩
theorem mo_k_X4_262 : mo_LkV RX4 262 RX3 yX3_search cX3_search 4 (some .boolean) := ⟨mo_wm_X4_262, mo_wi_yX3_search, mo_wl_yX3_search, mo_wz_X3, mo_wc_yX3_search⟩
theorem mo_k_X4_269 : mo_LkV RX4 269 RX2 yX2_copyFrom cX2_copyFrom 2 none := ⟨mo_wm_X4_269, mo_wi_yX2_copyFrom, mo_wl_yX2_copyFrom, mo_wz_X2, mo_wc_yX2_copyFrom⟩
theorem mo_k_X4_280 : mo_LkV RX4 280 RX0 yX0_addByte cX0_addByte 2 (some .int) := ⟨mo_wm_X4_280, mo_wi_yX0_addByte, mo_wl_yX0_addByte, mo_wz_X0, mo_wc_yX0_addByte⟩
theorem mo_k_X4_283 : mo_LkV RX4 283 RX0 yX0_readAll cX0_readAll 2 (some .int) := ⟨mo_wm_X4_283, mo_wi_yX0_readAll, mo_wl_yX0_readAll, mo_wz_X0, mo_wc_yX0_readAll⟩
theorem mo_k_X4_301 : mo_LkV RX4 301 RX4 yX4_carryOutOne cX4_carryOutOne 5 (some .boolean) := ⟨mo_wm_X4_301, mo_wi_yX4_carryOutOne, mo_wl_yX4_carryOutOne, mo_wz_X4, mo_wc_yX4_carryOutOne⟩
theorem mo_k_X4_311 : mo_LkV RX4 311 RX4 yX4_value cX4_value 2 (some .int) := ⟨mo_wm_X4_311, mo_wi_yX4_value, mo_wl_yX4_value, mo_wz_X4, mo_wc_yX4_value⟩
theorem mo_k_X4_314 : mo_LkV RX4 314 RX4 yX4_digestOfOrder cX4_digestOfOrder 7 (some .long) := ⟨mo_wm_X4_314, mo_wi_yX4_digestOfOrder, mo_wl_yX4_digestOfOrder, mo_wz_X4, mo_wc_yX4_digestOfOrder⟩
theorem mo_k_X4_318 : mo_LkV RX4 318 RX4 yX4_escort cX4_escort 3 (some .int) := ⟨mo_wm_X4_318, mo_wi_yX4_escort, mo_wl_yX4_escort, mo_wz_X4, mo_wc_yX4_escort⟩
theorem mo_k_X4_324 : mo_LkV RX4 324 RX4 yX4_digestOfMeeting cX4_digestOfMeeting 7 (some .long) := ⟨mo_wm_X4_324, mo_wi_yX4_digestOfMeeting, mo_wl_yX4_digestOfMeeting, mo_wz_X4, mo_wc_yX4_digestOfMeeting⟩
theorem mo_k_X4_327 : mo_LkV RX4 327 RX4 yX4_settledIn cX4_settledIn 2 (some .int) := ⟨mo_wm_X4_327, mo_wi_yX4_settledIn, mo_wl_yX4_settledIn, mo_wz_X4, mo_wc_yX4_settledIn⟩
theorem mo_k_X4_330 : mo_LkV RX4 330 RX4 yX4_order cX4_order 3 (some .int) := ⟨mo_wm_X4_330, mo_wi_yX4_order, mo_wl_yX4_order, mo_wz_X4, mo_wc_yX4_order⟩
theorem mo_k_X4_333 : mo_LkV RX4 333 RX4 yX4_settleIfOpen cX4_settleIfOpen 4 (some .boolean) := ⟨mo_wm_X4_333, mo_wi_yX4_settleIfOpen, mo_wl_yX4_settleIfOpen, mo_wz_X4, mo_wc_yX4_settleIfOpen⟩
theorem mo_k_X4_336 : mo_LkV RX4 336 RX3 yX3_conflict cX3_conflict 6 (some .int) := ⟨mo_wm_X4_336, mo_wi_yX3_conflict, mo_wl_yX3_conflict, mo_wz_X3, mo_wc_yX3_conflict⟩
theorem mo_k_X5_44 : mo_LkS RX5 44 yX5_in cX5_in 6 (some .boolean) := ⟨mo_wm_X5_44, mo_wi_yX5_in, mo_wz_X5, mo_wc_yX5_in⟩
theorem mo_k_X5_54 : mo_LkV RX5 54 RX5 yX5_areVenues cX5_areVenues 2 (some .boolean) := ⟨mo_wm_X5_54, mo_wi_yX5_areVenues, mo_wl_yX5_areVenues, mo_wz_X5, mo_wc_yX5_areVenues⟩
theorem mo_k_X5_58 : mo_LkV RX5 58 RX5 yX5_goes cX5_goes 4 (some .boolean) := ⟨mo_wm_X5_58, mo_wi_yX5_goes, mo_wl_yX5_goes, mo_wz_X5, mo_wc_yX5_goes⟩
theorem mo_k_X5_62 : mo_LkV RX5 62 RX5 yX5_save cX5_save 2 none := ⟨mo_wm_X5_62, mo_wi_yX5_save, mo_wl_yX5_save, mo_wz_X5, mo_wc_yX5_save⟩
theorem mo_k_X5_65 : mo_LkV RX5 65 RX5 yX5_isOrder cX5_isOrder 2 (some .boolean) := ⟨mo_wm_X5_65, mo_wi_yX5_isOrder, mo_wl_yX5_isOrder, mo_wz_X5, mo_wc_yX5_isOrder⟩
theorem mo_k_X5_68 : mo_LkV RX5 68 RX5 yX5_mayChange cX5_mayChange 3 (some .boolean) := ⟨mo_wm_X5_68, mo_wi_yX5_mayChange, mo_wl_yX5_mayChange, mo_wz_X5, mo_wc_yX5_mayChange⟩
theorem mo_k_X5_72 : mo_LkV RX5 72 RX5 yX5_changes cX5_changes 5 none := ⟨mo_wm_X5_72, mo_wi_yX5_changes, mo_wl_yX5_changes, mo_wz_X5, mo_wc_yX5_changes⟩
theorem mo_k_X5_76 : mo_LkV RX5 76 RX5 yX5_exchange cX5_exchange 4 (some .int) := ⟨mo_wm_X5_76, mo_wi_yX5_exchange, mo_wl_yX5_exchange, mo_wz_X5, mo_wc_yX5_exchange⟩
theorem mo_k_X5_84 : mo_LkV RX5 84 RX5 yX5_isEscort cX5_isEscort 2 (some .boolean) := ⟨mo_wm_X5_84, mo_wi_yX5_isEscort, mo_wl_yX5_isEscort, mo_wz_X5, mo_wc_yX5_isEscort⟩
theorem mo_k_X5_89 : mo_LkV RX5 89 RX5 yX5_of cX5_of 3 (some .int) := ⟨mo_wm_X5_89, mo_wi_yX5_of, mo_wl_yX5_of, mo_wz_X5, mo_wc_yX5_of⟩
theorem mo_k_X5_92 : mo_LkV RX5 92 RX5 yX5_stands cX5_stands 3 (some .boolean) := ⟨mo_wm_X5_92, mo_wi_yX5_stands, mo_wl_yX5_stands, mo_wz_X5, mo_wc_yX5_stands⟩
theorem mo_k_X5_95 : mo_LkS RX5 95 yX5_has cX5_has 2 (some .boolean) := ⟨mo_wm_X5_95, mo_wi_yX5_has, mo_wz_X5, mo_wc_yX5_has⟩
theorem mo_k_X5_98 : mo_LkV RX5 98 RX5 yX5_look cX5_look 3 none := ⟨mo_wm_X5_98, mo_wi_yX5_look, mo_wl_yX5_look, mo_wz_X5, mo_wc_yX5_look⟩
theorem mo_k_X5_102 : mo_LkV RX5 102 RX5 yX5_whyEscort cX5_whyEscort 3 (some .int) := ⟨mo_wm_X5_102, mo_wi_yX5_whyEscort, mo_wl_yX5_whyEscort, mo_wz_X5, mo_wc_yX5_whyEscort⟩
theorem mo_k_X5_105 : mo_LkV RX5 105 RX5 yX5_isVenue cX5_isVenue 2 (some .boolean) := ⟨mo_wm_X5_105, mo_wi_yX5_isVenue, mo_wl_yX5_isVenue, mo_wz_X5, mo_wc_yX5_isVenue⟩
theorem mo_k_X5_108 : mo_LkV RX5 108 RX5 yX5_areThere cX5_areThere 4 (some .boolean) := ⟨mo_wm_X5_108, mo_wi_yX5_areThere, mo_wl_yX5_areThere, mo_wz_X5, mo_wc_yX5_areThere⟩
theorem mo_k_X5_112 : mo_LkS RX5 112 yX5_isWeek cX5_isWeek 1 (some .boolean) := ⟨mo_wm_X5_112, mo_wi_yX5_isWeek, mo_wz_X5, mo_wc_yX5_isWeek⟩
theorem mo_k_X5_115 : mo_LkS RX5 115 yX5_isSlot cX5_isSlot 1 (some .boolean) := ⟨mo_wm_X5_115, mo_wi_yX5_isSlot, mo_wz_X5, mo_wc_yX5_isSlot⟩
theorem mo_k_X5_118 : mo_LkV RX5 118 RX5 yX5_reason cX5_reason 7 (some .int) := ⟨mo_wm_X5_118, mo_wi_yX5_reason, mo_wl_yX5_reason, mo_wz_X5, mo_wc_yX5_reason⟩
theorem mo_k_X5_122 : mo_LkV RX5 122 RX5 yX5_lays cX5_lays 7 none := ⟨mo_wm_X5_122, mo_wi_yX5_lays, mo_wl_yX5_lays, mo_wz_X5, mo_wc_yX5_lays⟩
theorem mo_k_X5_126 : mo_LkV RX5 126 RX5 yX5_owes cX5_owes 5 (some .int) := ⟨mo_wm_X5_126, mo_wi_yX5_owes, mo_wl_yX5_owes, mo_wz_X5, mo_wc_yX5_owes⟩
theorem mo_k_X5_129 : mo_LkV RX5 129 RX5 yX5_venueFor cX5_venueFor 4 (some .int) := ⟨mo_wm_X5_129, mo_wi_yX5_venueFor, mo_wl_yX5_venueFor, mo_wz_X5, mo_wc_yX5_venueFor⟩
theorem mo_k_X5_132 : mo_LkV RX5 132 RX5 yX5_escortFor cX5_escortFor 5 (some .int) := ⟨mo_wm_X5_132, mo_wi_yX5_escortFor, mo_wl_yX5_escortFor, mo_wz_X5, mo_wc_yX5_escortFor⟩
theorem mo_k_X5_136 : mo_LkV RX5 136 RX5 yX5_slotFor cX5_slotFor 4 (some .int) := ⟨mo_wm_X5_136, mo_wi_yX5_slotFor, mo_wl_yX5_slotFor, mo_wz_X5, mo_wc_yX5_slotFor⟩
theorem mo_k_X5_139 : mo_LkV RX5 139 RX5 yX5_plansOne cX5_plansOne 7 (some .boolean) := ⟨mo_wm_X5_139, mo_wi_yX5_plansOne, mo_wl_yX5_plansOne, mo_wz_X5, mo_wc_yX5_plansOne⟩
theorem mo_k_X5_142 : mo_LkV RX5 142 RX5 yX5_plans cX5_plans 3 (some .int) := ⟨mo_wm_X5_142, mo_wi_yX5_plans, mo_wl_yX5_plans, mo_wz_X5, mo_wc_yX5_plans⟩
theorem mo_k_X5_145 : mo_LkV RX5 145 RX5 yX5_placeOf cX5_placeOf 3 (some .int) := ⟨mo_wm_X5_145, mo_wi_yX5_placeOf, mo_wl_yX5_placeOf, mo_wz_X5, mo_wc_yX5_placeOf⟩
theorem mo_k_X5_148 : mo_LkV RX5 148 RX5 yX5_takeOut cX5_takeOut 3 none := ⟨mo_wm_X5_148, mo_wi_yX5_takeOut, mo_wl_yX5_takeOut, mo_wz_X5, mo_wc_yX5_takeOut⟩
theorem mo_k_X5_151 : mo_LkV RX5 151 RX5 yX5_holds cX5_holds 2 none := ⟨mo_wm_X5_151, mo_wi_yX5_holds, mo_wl_yX5_holds, mo_wz_X5, mo_wc_yX5_holds⟩
theorem mo_k_X5_154 : mo_LkV RX5 154 RX5 yX5_misses cX5_misses 2 none := ⟨mo_wm_X5_154, mo_wi_yX5_misses, mo_wl_yX5_misses, mo_wz_X5, mo_wc_yX5_misses⟩
theorem mo_k_X5_157 : mo_LkV RX5 157 RX5 yX5_mayTell cX5_mayTell 2 (some .boolean) := ⟨mo_wm_X5_157, mo_wi_yX5_mayTell, mo_wl_yX5_mayTell, mo_wz_X5, mo_wc_yX5_mayTell⟩
theorem mo_k_X5_160 : mo_LkV RX5 160 RX5 yX5_tells cX5_tells 3 none := ⟨mo_wm_X5_160, mo_wi_yX5_tells, mo_wl_yX5_tells, mo_wz_X5, mo_wc_yX5_tells⟩
theorem mo_k_X5_164 : mo_LkV RX5 164 RX5 yX5_ends cX5_ends 3 (some .int) := ⟨mo_wm_X5_164, mo_wi_yX5_ends, mo_wl_yX5_ends, mo_wz_X5, mo_wc_yX5_ends⟩
theorem mo_k_X5_168 : mo_LkV RX5 168 RX5 yX5_plannedOf cX5_plannedOf 4 (some .int) := ⟨mo_wm_X5_168, mo_wi_yX5_plannedOf, mo_wl_yX5_plannedOf, mo_wz_X5, mo_wc_yX5_plannedOf⟩
theorem mo_k_X5_171 : mo_LkV RX5 171 RX5 yX5_hoursOf cX5_hoursOf 4 (some .int) := ⟨mo_wm_X5_171, mo_wi_yX5_hoursOf, mo_wl_yX5_hoursOf, mo_wz_X5, mo_wc_yX5_hoursOf⟩
theorem mo_k_X5_176 : mo_LkV RX5 176 RX5 yX5_orderValue cX5_orderValue 3 (some .int) := ⟨mo_wm_X5_176, mo_wi_yX5_orderValue, mo_wl_yX5_orderValue, mo_wz_X5, mo_wc_yX5_orderValue⟩
theorem mo_k_X5_181 : mo_LkV RX5 181 RX5 yX5_manyNow cX5_manyNow 2 (some .int) := ⟨mo_wm_X5_181, mo_wi_yX5_manyNow, mo_wl_yX5_manyNow, mo_wz_X5, mo_wc_yX5_manyNow⟩
theorem mo_k_X5_186 : mo_LkV RX5 186 RX5 yX5_escortValue cX5_escortValue 3 (some .int) := ⟨mo_wm_X5_186, mo_wi_yX5_escortValue, mo_wl_yX5_escortValue, mo_wz_X5, mo_wc_yX5_escortValue⟩
theorem mo_k_X5_189 : mo_LkV RX5 189 RX5 yX5_owedByAll cX5_owedByAll 4 (some .int) := ⟨mo_wm_X5_189, mo_wi_yX5_owedByAll, mo_wl_yX5_owedByAll, mo_wz_X5, mo_wc_yX5_owedByAll⟩
theorem mo_k_X5_194 : mo_LkV RX5 194 RX5 yX5_numberOf cX5_numberOf 2 (some .int) := ⟨mo_wm_X5_194, mo_wi_yX5_numberOf, mo_wl_yX5_numberOf, mo_wz_X5, mo_wc_yX5_numberOf⟩
theorem mo_k_X5_197 : mo_LkV RX5 197 RX5 yX5_layAside cX5_layAside 2 none := ⟨mo_wm_X5_197, mo_wi_yX5_layAside, mo_wl_yX5_layAside, mo_wz_X5, mo_wc_yX5_layAside⟩
theorem mo_k_X5_200 : mo_LkV RX5 200 RX5 yX5_takeBack cX5_takeBack 2 none := ⟨mo_wm_X5_200, mo_wi_yX5_takeBack, mo_wl_yX5_takeBack, mo_wz_X5, mo_wc_yX5_takeBack⟩
theorem mo_k_X5_203 : mo_LkV RX5 203 RX5 yX5_holdsAll cX5_holdsAll 2 none := ⟨mo_wm_X5_203, mo_wi_yX5_holdsAll, mo_wl_yX5_holdsAll, mo_wz_X5, mo_wc_yX5_holdsAll⟩
theorem mo_k_X5_206 : mo_LkV RX5 206 RX5 yX5_settled cX5_settled 5 (some .int) := ⟨mo_wm_X5_206, mo_wi_yX5_settled, mo_wl_yX5_settled, mo_wz_X5, mo_wc_yX5_settled⟩
theorem mo_k_X5_217 : mo_LkV RX5 217 RX5 yX5_here cX5_here 1 (some .int) := ⟨mo_wm_X5_217, mo_wi_yX5_here, mo_wl_yX5_here, mo_wz_X5, mo_wc_yX5_here⟩
theorem mo_k_X5_229 : mo_LkV RX5 229 RX5 yX5_takesDigit cX5_takesDigit 2 (some .boolean) := ⟨mo_wm_X5_229, mo_wi_yX5_takesDigit, mo_wl_yX5_takesDigit, mo_wz_X5, mo_wc_yX5_takesDigit⟩
theorem mo_k_X5_232 : mo_LkV RX5 232 RX5 yX5_takesNumber cX5_takesNumber 5 (some .boolean) := ⟨mo_wm_X5_232, mo_wi_yX5_takesNumber, mo_wl_yX5_takesNumber, mo_wz_X5, mo_wc_yX5_takesNumber⟩
theorem mo_k_X5_235 : mo_LkV RX5 235 RX5 yX5_takesByte cX5_takesByte 3 (some .boolean) := ⟨mo_wm_X5_235, mo_wi_yX5_takesByte, mo_wl_yX5_takesByte, mo_wz_X5, mo_wc_yX5_takesByte⟩
theorem mo_k_X5_238 : mo_LkV RX5 238 RX5 yX5_takesParts cX5_takesParts 1 (some .boolean) := ⟨mo_wm_X5_238, mo_wi_yX5_takesParts, mo_wl_yX5_takesParts, mo_wz_X5, mo_wc_yX5_takesParts⟩
theorem mo_k_X5_242 : mo_LkV RX5 242 RX5 yX5_changesOrder cX5_changesOrder 1 (some .boolean) := ⟨mo_wm_X5_242, mo_wi_yX5_changesOrder, mo_wl_yX5_changesOrder, mo_wz_X5, mo_wc_yX5_changesOrder⟩
theorem mo_k_X5_245 : mo_LkV RX5 245 RX5 yX5_takesOrder cX5_takesOrder 1 (some .boolean) := ⟨mo_wm_X5_245, mo_wi_yX5_takesOrder, mo_wl_yX5_takesOrder, mo_wz_X5, mo_wc_yX5_takesOrder⟩
theorem mo_k_X5_248 : mo_LkV RX5 248 RX5 yX5_does cX5_does 3 (some .boolean) := ⟨mo_wm_X5_248, mo_wi_yX5_does, mo_wl_yX5_does, mo_wz_X5, mo_wc_yX5_does⟩
theorem mo_k_X5_257 : mo_LkV RX5 257 RX5 yX5_adds cX5_adds 2 none := ⟨mo_wm_X5_257, mo_wi_yX5_adds, mo_wl_yX5_adds, mo_wz_X5, mo_wc_yX5_adds⟩
theorem mo_k_X5_262 : mo_LkV RX5 262 RX5 yX5_addsOrder cX5_addsOrder 3 none := ⟨mo_wm_X5_262, mo_wi_yX5_addsOrder, mo_wl_yX5_addsOrder, mo_wz_X5, mo_wc_yX5_addsOrder⟩
theorem mo_y_yL_addEscort : yL_addEscort.cls ≠ "java/lang/invoke/MethodHandle" ∧ yL_addEscort.cls ≠ "java/lang/invoke/VarHandle" ∧ (parseMethodDescriptor yL_addEscort.desc).map (fun d => d.parameters.length) = some 4 := by decide +kernel
theorem mo_y_yL_addOrder : yL_addOrder.cls ≠ "java/lang/invoke/MethodHandle" ∧ yL_addOrder.cls ≠ "java/lang/invoke/VarHandle" ∧ (parseMethodDescriptor yL_addOrder.desc).map (fun d => d.parameters.length) = some 4 := by decide +kernel
theorem mo_y_yL_addVenue : yL_addVenue.cls ≠ "java/lang/invoke/MethodHandle" ∧ yL_addVenue.cls ≠ "java/lang/invoke/VarHandle" ∧ (parseMethodDescriptor yL_addVenue.desc).map (fun d => d.parameters.length) = some 3 := by decide +kernel
theorem mo_y_yL_allow : yL_allow.cls ≠ "java/lang/invoke/MethodHandle" ∧ yL_allow.cls ≠ "java/lang/invoke/VarHandle" ∧ (parseMethodDescriptor yL_allow.desc).map (fun d => d.parameters.length) = some 4 := by decide +kernel
theorem mo_y_yL_append : yL_append.cls ≠ "java/lang/invoke/MethodHandle" ∧ yL_append.cls ≠ "java/lang/invoke/VarHandle" ∧ (parseMethodDescriptor yL_append.desc).map (fun d => d.parameters.length) = some 3 := by decide +kernel
theorem mo_y_yL_cancel : yL_cancel.cls ≠ "java/lang/invoke/MethodHandle" ∧ yL_cancel.cls ≠ "java/lang/invoke/VarHandle" ∧ (parseMethodDescriptor yL_cancel.desc).map (fun d => d.parameters.length) = some 3 := by decide +kernel
theorem mo_y_yL_change : yL_change.cls ≠ "java/lang/invoke/MethodHandle" ∧ yL_change.cls ≠ "java/lang/invoke/VarHandle" ∧ (parseMethodDescriptor yL_change.desc).map (fun d => d.parameters.length) = some 5 := by decide +kernel
theorem mo_y_yL_endWeek : yL_endWeek.cls ≠ "java/lang/invoke/MethodHandle" ∧ yL_endWeek.cls ≠ "java/lang/invoke/VarHandle" ∧ (parseMethodDescriptor yL_endWeek.desc).map (fun d => d.parameters.length) = some 2 := by decide +kernel
theorem mo_y_yL_escort : yL_escort.cls ≠ "java/lang/invoke/MethodHandle" ∧ yL_escort.cls ≠ "java/lang/invoke/VarHandle" ∧ (parseMethodDescriptor yL_escort.desc).map (fun d => d.parameters.length) = some 4 := by decide +kernel
theorem mo_y_yL_firstSlot : yL_firstSlot.cls ≠ "java/lang/invoke/MethodHandle" ∧ yL_firstSlot.cls ≠ "java/lang/invoke/VarHandle" ∧ (parseMethodDescriptor yL_firstSlot.desc).map (fun d => d.parameters.length) = some 4 := by decide +kernel
theorem mo_y_yL_freeRooms : yL_freeRooms.cls ≠ "java/lang/invoke/MethodHandle" ∧ yL_freeRooms.cls ≠ "java/lang/invoke/VarHandle" ∧ (parseMethodDescriptor yL_freeRooms.desc).map (fun d => d.parameters.length) = some 5 := by decide +kernel
theorem mo_y_yL_gainBy : yL_gainBy.cls ≠ "java/lang/invoke/MethodHandle" ∧ yL_gainBy.cls ≠ "java/lang/invoke/VarHandle" ∧ (parseMethodDescriptor yL_gainBy.desc).map (fun d => d.parameters.length) = some 4 := by decide +kernel
theorem mo_y_yL_hours : yL_hours.cls ≠ "java/lang/invoke/MethodHandle" ∧ yL_hours.cls ≠ "java/lang/invoke/VarHandle" ∧ (parseMethodDescriptor yL_hours.desc).map (fun d => d.parameters.length) = some 4 := by decide +kernel
theorem mo_y_yL_meeting : yL_meeting.cls ≠ "java/lang/invoke/MethodHandle" ∧ yL_meeting.cls ≠ "java/lang/invoke/VarHandle" ∧ (parseMethodDescriptor yL_meeting.desc).map (fun d => d.parameters.length) = some 4 := by decide +kernel
theorem mo_y_yL_order : yL_order.cls ≠ "java/lang/invoke/MethodHandle" ∧ yL_order.cls ≠ "java/lang/invoke/VarHandle" ∧ (parseMethodDescriptor yL_order.desc).map (fun d => d.parameters.length) = some 4 := by decide +kernel
theorem mo_y_yL_owed : yL_owed.cls ≠ "java/lang/invoke/MethodHandle" ∧ yL_owed.cls ≠ "java/lang/invoke/VarHandle" ∧ (parseMethodDescriptor yL_owed.desc).map (fun d => d.parameters.length) = some 4 := by decide +kernel
theorem mo_y_yL_owedBehind : yL_owedBehind.cls ≠ "java/lang/invoke/MethodHandle" ∧ yL_owedBehind.cls ≠ "java/lang/invoke/VarHandle" ∧ (parseMethodDescriptor yL_owedBehind.desc).map (fun d => d.parameters.length) = some 3 := by decide +kernel
theorem mo_y_yL_plan : yL_plan.cls ≠ "java/lang/invoke/MethodHandle" ∧ yL_plan.cls ≠ "java/lang/invoke/VarHandle" ∧ (parseMethodDescriptor yL_plan.desc).map (fun d => d.parameters.length) = some 7 := by decide +kernel
theorem mo_y_yL_planWeek : yL_planWeek.cls ≠ "java/lang/invoke/MethodHandle" ∧ yL_planWeek.cls ≠ "java/lang/invoke/VarHandle" ∧ (parseMethodDescriptor yL_planWeek.desc).map (fun d => d.parameters.length) = some 3 := by decide +kernel
theorem mo_y_yL_setSlots : yL_setSlots.cls ≠ "java/lang/invoke/MethodHandle" ∧ yL_setSlots.cls ≠ "java/lang/invoke/VarHandle" ∧ (parseMethodDescriptor yL_setSlots.desc).map (fun d => d.parameters.length) = some 4 := by decide +kernel
theorem mo_y_yL_tell : yL_tell.cls ≠ "java/lang/invoke/MethodHandle" ∧ yL_tell.cls ≠ "java/lang/invoke/VarHandle" ∧ (parseMethodDescriptor yL_tell.desc).map (fun d => d.parameters.length) = some 4 := by decide +kernel
theorem mo_y_yL_undo : yL_undo.cls ≠ "java/lang/invoke/MethodHandle" ∧ yL_undo.cls ≠ "java/lang/invoke/VarHandle" ∧ (parseMethodDescriptor yL_undo.desc).map (fun d => d.parameters.length) = some 2 := by decide +kernel
theorem mo_y_yL_value : yL_value.cls ≠ "java/lang/invoke/MethodHandle" ∧ yL_value.cls ≠ "java/lang/invoke/VarHandle" ∧ (parseMethodDescriptor yL_value.desc).map (fun d => d.parameters.length) = some 3 := by decide +kernel
theorem mo_y_yL_why : yL_why.cls ≠ "java/lang/invoke/MethodHandle" ∧ yL_why.cls ≠ "java/lang/invoke/VarHandle" ∧ (parseMethodDescriptor yL_why.desc).map (fun d => d.parameters.length) = some 7 := by decide +kernel
theorem mo_y_yX0_addByte : mo_dV yX0_addByte RX0 1 := by unfold mo_dV; decide +kernel
theorem mo_y_yX0_byteHere : mo_dV yX0_byteHere RX0 0 := by unfold mo_dV; decide +kernel
theorem mo_y_yX0_init : yX0_init.cls ≠ "java/lang/invoke/MethodHandle" ∧ yX0_init.cls ≠ "java/lang/invoke/VarHandle" ∧ (parseMethodDescriptor yX0_init.desc).map (fun d => d.parameters.length) = some 0 := by decide +kernel
theorem mo_y_yX0_isDigitHere : mo_dV yX0_isDigitHere RX0 0 := by unfold mo_dV; decide +kernel
theorem mo_y_yX0_readAll : mo_dV yX0_readAll RX0 0 := by unfold mo_dV; decide +kernel
theorem mo_y_yX0_readDigit : mo_dV yX0_readDigit RX0 2 := by unfold mo_dV; decide +kernel
theorem mo_y_yX0_readNumber : mo_dV yX0_readNumber RX0 2 := by unfold mo_dV; decide +kernel
theorem mo_y_yX0_readOrder : mo_dV yX0_readOrder RX0 0 := by unfold mo_dV; decide +kernel
theorem mo_y_yX0_readSign : mo_dV yX0_readSign RX0 1 := by unfold mo_dV; decide +kernel
theorem mo_y_yX1_add : mo_dV yX1_add RX1 2 := by unfold mo_dV; decide +kernel
theorem mo_y_yX1_clear : mo_dV yX1_clear RX1 0 := by unfold mo_dV; decide +kernel
theorem mo_y_yX1_copyFrom : mo_dV yX1_copyFrom RX1 1 := by unfold mo_dV; decide +kernel
theorem mo_y_yX1_get : mo_dV yX1_get RX1 1 := by unfold mo_dV; decide +kernel
theorem mo_y_yX1_init : yX1_init.cls ≠ "java/lang/invoke/MethodHandle" ∧ yX1_init.cls ≠ "java/lang/invoke/VarHandle" ∧ (parseMethodDescriptor yX1_init.desc).map (fun d => d.parameters.length) = some 1 := by decide +kernel
theorem mo_y_yX1_mark : mo_dV yX1_mark RX1 2 := by unfold mo_dV; decide +kernel
theorem mo_y_yX1_set : mo_dV yX1_set RX1 2 := by unfold mo_dV; decide +kernel
theorem mo_y_yX1_sum : mo_dV yX1_sum RX1 0 := by unfold mo_dV; decide +kernel
theorem mo_y_yX2_beginNextWeek : mo_dV yX2_beginNextWeek RX2 0 := by unfold mo_dV; decide +kernel
theorem mo_y_yX2_copyFrom : mo_dV yX2_copyFrom RX2 1 := by unfold mo_dV; decide +kernel
theorem mo_y_yX2_debt : mo_dV yX2_debt RX2 2 := by unfold mo_dV; decide +kernel
theorem mo_y_yX2_debtOfAll : mo_dV yX2_debtOfAll RX2 1 := by unfold mo_dV; decide +kernel
theorem mo_y_yX2_dropMeeting : mo_dV yX2_dropMeeting RX2 1 := by unfold mo_dV; decide +kernel
theorem mo_y_yX2_enterEscort : mo_dV yX2_enterEscort RX2 2 := by unfold mo_dV; decide +kernel
theorem mo_y_yX2_enterOrder : mo_dV yX2_enterOrder RX2 2 := by unfold mo_dV; decide +kernel
theorem mo_y_yX2_enterVenue : mo_dV yX2_enterVenue RX2 1 := by unfold mo_dV; decide +kernel
theorem mo_y_yX2_fact : mo_dV yX2_fact RX2 2 := by unfold mo_dV; decide +kernel
theorem mo_y_yX2_hasAllVenues : mo_dV yX2_hasAllVenues RX2 1 := by unfold mo_dV; decide +kernel
theorem mo_y_yX2_hasEscort : mo_dV yX2_hasEscort RX2 1 := by unfold mo_dV; decide +kernel
theorem mo_y_yX2_hasOrder : mo_dV yX2_hasOrder RX2 1 := by unfold mo_dV; decide +kernel
theorem mo_y_yX2_hasVenue : mo_dV yX2_hasVenue RX2 1 := by unfold mo_dV; decide +kernel
theorem mo_y_yX2_hoursIn : mo_dV yX2_hoursIn RX2 2 := by unfold mo_dV; decide +kernel
theorem mo_y_yX2_hoursUpTo : mo_dV yX2_hoursUpTo RX2 2 := by unfold mo_dV; decide +kernel
theorem mo_y_yX2_init : yX2_init.cls ≠ "java/lang/invoke/MethodHandle" ∧ yX2_init.cls ≠ "java/lang/invoke/VarHandle" ∧ (parseMethodDescriptor yX2_init.desc).map (fun d => d.parameters.length) = some 0 := by decide +kernel
theorem mo_y_yX2_isFull : mo_dV yX2_isFull RX2 0 := by unfold mo_dV; decide +kernel
theorem mo_y_yX2_isLastWeek : mo_dV yX2_isLastWeek RX2 0 := by unfold mo_dV; decide +kernel
theorem mo_y_yX2_isOpen : mo_dV yX2_isOpen RX2 1 := by unfold mo_dV; decide +kernel
theorem mo_y_yX2_isOver : mo_dV yX2_isOver RX2 1 := by unfold mo_dV; decide +kernel
theorem mo_y_yX2_keepMeeting : mo_dV yX2_keepMeeting RX2 5 := by unfold mo_dV; decide +kernel
theorem mo_y_yX2_meetingsWith : mo_dV yX2_meetingsWith RX2 2 := by unfold mo_dV; decide +kernel
theorem mo_y_yX2_moveMeeting : mo_dV yX2_moveMeeting RX2 2 := by unfold mo_dV; decide +kernel
theorem mo_y_yX2_placeOf : mo_dV yX2_placeOf RX2 1 := by unfold mo_dV; decide +kernel
theorem mo_y_yX2_plannedUpTo : mo_dV yX2_plannedUpTo RX2 2 := by unfold mo_dV; decide +kernel
theorem mo_y_yX2_setHoursFrom : mo_dV yX2_setHoursFrom RX2 3 := by unfold mo_dV; decide +kernel
theorem mo_y_yX2_settle : mo_dV yX2_settle RX2 2 := by unfold mo_dV; decide +kernel
theorem mo_y_yX2_settleWeek : mo_dV yX2_settleWeek RX2 1 := by unfold mo_dV; decide +kernel
theorem mo_y_yX2_takesPlaceIn : mo_dV yX2_takesPlaceIn RX2 2 := by unfold mo_dV; decide +kernel
theorem mo_y_yX3_conflict : mo_dV yX3_conflict RX3 5 := by unfold mo_dV; decide +kernel
theorem mo_y_yX3_firstVenue : mo_dV yX3_firstVenue RX3 3 := by unfold mo_dV; decide +kernel
theorem mo_y_yX3_freestEscort : mo_dV yX3_freestEscort RX3 2 := by unfold mo_dV; decide +kernel
theorem mo_y_yX3_greatestDebt : mo_dV yX3_greatestDebt RX3 1 := by unfold mo_dV; decide +kernel
theorem mo_y_yX3_init : yX3_init.cls ≠ "java/lang/invoke/MethodHandle" ∧ yX3_init.cls ≠ "java/lang/invoke/VarHandle" ∧ (parseMethodDescriptor yX3_init.desc).map (fun d => d.parameters.length) = some 0 := by decide +kernel
theorem mo_y_yX3_isIn : yX3_isIn.cls ≠ "java/lang/invoke/MethodHandle" ∧ yX3_isIn.cls ≠ "java/lang/invoke/VarHandle" ∧ (parseMethodDescriptor yX3_isIn.desc).map (fun d => d.parameters.length) = some 2 := by decide +kernel
theorem mo_y_yX3_open : mo_dV yX3_open RX3 2 := by unfold mo_dV; decide +kernel
theorem mo_y_yX3_planAll : mo_dV yX3_planAll RX3 2 := by unfold mo_dV; decide +kernel
theorem mo_y_yX3_roomsLeft : mo_dV yX3_roomsLeft RX3 3 := by unfold mo_dV; decide +kernel
theorem mo_y_yX3_search : mo_dV yX3_search RX3 2 := by unfold mo_dV; decide +kernel
theorem mo_y_yX3_take : mo_dV yX3_take RX3 4 := by unfold mo_dV; decide +kernel
theorem mo_y_yX4_addEscort : mo_dV yX4_addEscort RX4 2 := by unfold mo_dV; decide +kernel
theorem mo_y_yX4_addOrder : mo_dV yX4_addOrder RX4 2 := by unfold mo_dV; decide +kernel
theorem mo_y_yX4_addVenue : mo_dV yX4_addVenue RX4 1 := by unfold mo_dV; decide +kernel
theorem mo_y_yX4_allow : mo_dV yX4_allow RX4 2 := by unfold mo_dV; decide +kernel
theorem mo_y_yX4_append : mo_dV yX4_append RX4 1 := by unfold mo_dV; decide +kernel
theorem mo_y_yX4_cancel : mo_dV yX4_cancel RX4 1 := by unfold mo_dV; decide +kernel
theorem mo_y_yX4_carryOut : mo_dV yX4_carryOut RX4 0 := by unfold mo_dV; decide +kernel
theorem mo_y_yX4_carryOutOne : mo_dV yX4_carryOutOne RX4 4 := by unfold mo_dV; decide +kernel
theorem mo_y_yX4_change : mo_dV yX4_change RX4 3 := by unfold mo_dV; decide +kernel
theorem mo_y_yX4_clearText : mo_dV yX4_clearText RX4 0 := by unfold mo_dV; decide +kernel
theorem mo_y_yX4_digest : mo_dV yX4_digest RX4 0 := by unfold mo_dV; decide +kernel
theorem mo_y_yX4_digestOfMeeting : mo_dV yX4_digestOfMeeting RX4 2 := by unfold mo_dV; decide +kernel
theorem mo_y_yX4_digestOfOrder : mo_dV yX4_digestOfOrder RX4 2 := by unfold mo_dV; decide +kernel
theorem mo_y_yX4_endWeek : mo_dV yX4_endWeek RX4 0 := by unfold mo_dV; decide +kernel
theorem mo_y_yX4_escort : mo_dV yX4_escort RX4 2 := by unfold mo_dV; decide +kernel
theorem mo_y_yX4_firstSlot : mo_dV yX4_firstSlot RX4 2 := by unfold mo_dV; decide +kernel
theorem mo_y_yX4_freeRooms : mo_dV yX4_freeRooms RX4 3 := by unfold mo_dV; decide +kernel
theorem mo_y_yX4_gainBy : mo_dV yX4_gainBy RX4 2 := by unfold mo_dV; decide +kernel
theorem mo_y_yX4_hours : mo_dV yX4_hours RX4 2 := by unfold mo_dV; decide +kernel
theorem mo_y_yX4_init : yX4_init.cls ≠ "java/lang/invoke/MethodHandle" ∧ yX4_init.cls ≠ "java/lang/invoke/VarHandle" ∧ (parseMethodDescriptor yX4_init.desc).map (fun d => d.parameters.length) = some 0 := by decide +kernel
theorem mo_y_yX4_isHours : yX4_isHours.cls ≠ "java/lang/invoke/MethodHandle" ∧ yX4_isHours.cls ≠ "java/lang/invoke/VarHandle" ∧ (parseMethodDescriptor yX4_isHours.desc).map (fun d => d.parameters.length) = some 1 := by decide +kernel
theorem mo_y_yX4_isSetOfSlots : yX4_isSetOfSlots.cls ≠ "java/lang/invoke/MethodHandle" ∧ yX4_isSetOfSlots.cls ≠ "java/lang/invoke/VarHandle" ∧ (parseMethodDescriptor yX4_isSetOfSlots.desc).map (fun d => d.parameters.length) = some 1 := by decide +kernel
theorem mo_y_yX4_isSlot : yX4_isSlot.cls ≠ "java/lang/invoke/MethodHandle" ∧ yX4_isSlot.cls ≠ "java/lang/invoke/VarHandle" ∧ (parseMethodDescriptor yX4_isSlot.desc).map (fun d => d.parameters.length) = some 1 := by decide +kernel
theorem mo_y_yX4_isWeek : yX4_isWeek.cls ≠ "java/lang/invoke/MethodHandle" ∧ yX4_isWeek.cls ≠ "java/lang/invoke/VarHandle" ∧ (parseMethodDescriptor yX4_isWeek.desc).map (fun d => d.parameters.length) = some 1 := by decide +kernel
theorem mo_y_yX4_kept : mo_dV yX4_kept RX4 0 := by unfold mo_dV; decide +kernel
theorem mo_y_yX4_mayChange : mo_dV yX4_mayChange RX4 2 := by unfold mo_dV; decide +kernel
theorem mo_y_yX4_meeting : mo_dV yX4_meeting RX4 2 := by unfold mo_dV; decide +kernel
theorem mo_y_yX4_order : mo_dV yX4_order RX4 2 := by unfold mo_dV; decide +kernel
theorem mo_y_yX4_owed : mo_dV yX4_owed RX4 2 := by unfold mo_dV; decide +kernel
theorem mo_y_yX4_owedBehind : mo_dV yX4_owedBehind RX4 1 := by unfold mo_dV; decide +kernel
theorem mo_y_yX4_plan : mo_dV yX4_plan RX4 5 := by unfold mo_dV; decide +kernel
theorem mo_y_yX4_planWeek : mo_dV yX4_planWeek RX4 1 := by unfold mo_dV; decide +kernel
theorem mo_y_yX4_reasonAgainst : mo_dV yX4_reasonAgainst RX4 5 := by unfold mo_dV; decide +kernel
theorem mo_y_yX4_save : mo_dV yX4_save RX4 0 := by unfold mo_dV; decide +kernel
theorem mo_y_yX4_setSlots : mo_dV yX4_setSlots RX4 2 := by unfold mo_dV; decide +kernel
theorem mo_y_yX4_settleIfOpen : mo_dV yX4_settleIfOpen RX4 2 := by unfold mo_dV; decide +kernel
theorem mo_y_yX4_settledIn : mo_dV yX4_settledIn RX4 0 := by unfold mo_dV; decide +kernel
theorem mo_y_yX4_tell : mo_dV yX4_tell RX4 2 := by unfold mo_dV; decide +kernel
theorem mo_y_yX4_undo : mo_dV yX4_undo RX4 0 := by unfold mo_dV; decide +kernel
theorem mo_y_yX4_value : mo_dV yX4_value RX4 1 := by unfold mo_dV; decide +kernel
theorem mo_y_yX4_why : mo_dV yX4_why RX4 5 := by unfold mo_dV; decide +kernel
theorem mo_y_yX5_addEscort : mo_dV yX5_addEscort RX5 2 := by unfold mo_dV; decide +kernel
theorem mo_y_yX5_addOrder : mo_dV yX5_addOrder RX5 2 := by unfold mo_dV; decide +kernel
theorem mo_y_yX5_addVenue : mo_dV yX5_addVenue RX5 1 := by unfold mo_dV; decide +kernel
theorem mo_y_yX5_adds : mo_dV yX5_adds RX5 1 := by unfold mo_dV; decide +kernel
theorem mo_y_yX5_addsOrder : mo_dV yX5_addsOrder RX5 1 := by unfold mo_dV; decide +kernel
theorem mo_y_yX5_allow : mo_dV yX5_allow RX5 2 := by unfold mo_dV; decide +kernel
theorem mo_y_yX5_append : mo_dV yX5_append RX5 1 := by unfold mo_dV; decide +kernel
theorem mo_y_yX5_areThere : mo_dV yX5_areThere RX5 3 := by unfold mo_dV; decide +kernel
theorem mo_y_yX5_areVenues : mo_dV yX5_areVenues RX5 1 := by unfold mo_dV; decide +kernel
theorem mo_y_yX5_cancel : mo_dV yX5_cancel RX5 1 := by unfold mo_dV; decide +kernel
theorem mo_y_yX5_carryOut : mo_dV yX5_carryOut RX5 0 := by unfold mo_dV; decide +kernel
theorem mo_y_yX5_change : mo_dV yX5_change RX5 3 := by unfold mo_dV; decide +kernel
theorem mo_y_yX5_changes : mo_dV yX5_changes RX5 3 := by unfold mo_dV; decide +kernel
theorem mo_y_yX5_changesOrder : mo_dV yX5_changesOrder RX5 0 := by unfold mo_dV; decide +kernel
theorem mo_y_yX5_clearText : mo_dV yX5_clearText RX5 0 := by unfold mo_dV; decide +kernel
theorem mo_y_yX5_digest : mo_dV yX5_digest RX5 0 := by unfold mo_dV; decide +kernel
theorem mo_y_yX5_does : mo_dV yX5_does RX5 0 := by unfold mo_dV; decide +kernel
theorem mo_y_yX5_endWeek : mo_dV yX5_endWeek RX5 0 := by unfold mo_dV; decide +kernel
theorem mo_y_yX5_ends : mo_dV yX5_ends RX5 0 := by unfold mo_dV; decide +kernel
theorem mo_y_yX5_escort : mo_dV yX5_escort RX5 2 := by unfold mo_dV; decide +kernel
theorem mo_y_yX5_escortFor : mo_dV yX5_escortFor RX5 1 := by unfold mo_dV; decide +kernel
theorem mo_y_yX5_escortValue : mo_dV yX5_escortValue RX5 2 := by unfold mo_dV; decide +kernel
theorem mo_y_yX5_exchange : mo_dV yX5_exchange RX5 2 := by unfold mo_dV; decide +kernel
theorem mo_y_yX5_firstSlot : mo_dV yX5_firstSlot RX5 2 := by unfold mo_dV; decide +kernel
theorem mo_y_yX5_freeRooms : mo_dV yX5_freeRooms RX5 3 := by unfold mo_dV; decide +kernel
theorem mo_y_yX5_gainBy : mo_dV yX5_gainBy RX5 2 := by unfold mo_dV; decide +kernel
theorem mo_y_yX5_goes : mo_dV yX5_goes RX5 3 := by unfold mo_dV; decide +kernel
theorem mo_y_yX5_has : yX5_has.cls ≠ "java/lang/invoke/MethodHandle" ∧ yX5_has.cls ≠ "java/lang/invoke/VarHandle" ∧ (parseMethodDescriptor yX5_has.desc).map (fun d => d.parameters.length) = some 2 := by decide +kernel
theorem mo_y_yX5_here : mo_dV yX5_here RX5 0 := by unfold mo_dV; decide +kernel
theorem mo_y_yX5_holds : mo_dV yX5_holds RX5 1 := by unfold mo_dV; decide +kernel
theorem mo_y_yX5_holdsAll : mo_dV yX5_holdsAll RX5 0 := by unfold mo_dV; decide +kernel
theorem mo_y_yX5_hours : mo_dV yX5_hours RX5 2 := by unfold mo_dV; decide +kernel
theorem mo_y_yX5_hoursOf : mo_dV yX5_hoursOf RX5 1 := by unfold mo_dV; decide +kernel
theorem mo_y_yX5_in : yX5_in.cls ≠ "java/lang/invoke/MethodHandle" ∧ yX5_in.cls ≠ "java/lang/invoke/VarHandle" ∧ (parseMethodDescriptor yX5_in.desc).map (fun d => d.parameters.length) = some 3 := by decide +kernel
theorem mo_y_yX5_init : yX5_init.cls ≠ "java/lang/invoke/MethodHandle" ∧ yX5_init.cls ≠ "java/lang/invoke/VarHandle" ∧ (parseMethodDescriptor yX5_init.desc).map (fun d => d.parameters.length) = some 0 := by decide +kernel
theorem mo_y_yX5_isEscort : mo_dV yX5_isEscort RX5 1 := by unfold mo_dV; decide +kernel
theorem mo_y_yX5_isOrder : mo_dV yX5_isOrder RX5 1 := by unfold mo_dV; decide +kernel
theorem mo_y_yX5_isSlot : yX5_isSlot.cls ≠ "java/lang/invoke/MethodHandle" ∧ yX5_isSlot.cls ≠ "java/lang/invoke/VarHandle" ∧ (parseMethodDescriptor yX5_isSlot.desc).map (fun d => d.parameters.length) = some 1 := by decide +kernel
theorem mo_y_yX5_isVenue : mo_dV yX5_isVenue RX5 1 := by unfold mo_dV; decide +kernel
theorem mo_y_yX5_isWeek : yX5_isWeek.cls ≠ "java/lang/invoke/MethodHandle" ∧ yX5_isWeek.cls ≠ "java/lang/invoke/VarHandle" ∧ (parseMethodDescriptor yX5_isWeek.desc).map (fun d => d.parameters.length) = some 1 := by decide +kernel
theorem mo_y_yX5_kept : mo_dV yX5_kept RX5 0 := by unfold mo_dV; decide +kernel
theorem mo_y_yX5_layAside : mo_dV yX5_layAside RX5 0 := by unfold mo_dV; decide +kernel
theorem mo_y_yX5_lays : mo_dV yX5_lays RX5 5 := by unfold mo_dV; decide +kernel
theorem mo_y_yX5_look : mo_dV yX5_look RX5 1 := by unfold mo_dV; decide +kernel
theorem mo_y_yX5_manyNow : mo_dV yX5_manyNow RX5 1 := by unfold mo_dV; decide +kernel
theorem mo_y_yX5_mayChange : mo_dV yX5_mayChange RX5 2 := by unfold mo_dV; decide +kernel
theorem mo_y_yX5_mayTell : mo_dV yX5_mayTell RX5 1 := by unfold mo_dV; decide +kernel
theorem mo_y_yX5_meeting : mo_dV yX5_meeting RX5 2 := by unfold mo_dV; decide +kernel
theorem mo_y_yX5_misses : mo_dV yX5_misses RX5 1 := by unfold mo_dV; decide +kernel
theorem mo_y_yX5_numberOf : mo_dV yX5_numberOf RX5 1 := by unfold mo_dV; decide +kernel
theorem mo_y_yX5_of : mo_dV yX5_of RX5 2 := by unfold mo_dV; decide +kernel
theorem mo_y_yX5_order : mo_dV yX5_order RX5 2 := by unfold mo_dV; decide +kernel
theorem mo_y_yX5_orderValue : mo_dV yX5_orderValue RX5 2 := by unfold mo_dV; decide +kernel
theorem mo_y_yX5_owed : mo_dV yX5_owed RX5 2 := by unfold mo_dV; decide +kernel
theorem mo_y_yX5_owedBehind : mo_dV yX5_owedBehind RX5 1 := by unfold mo_dV; decide +kernel
theorem mo_y_yX5_owedByAll : mo_dV yX5_owedByAll RX5 1 := by unfold mo_dV; decide +kernel
theorem mo_y_yX5_owes : mo_dV yX5_owes RX5 2 := by unfold mo_dV; decide +kernel
theorem mo_y_yX5_placeOf : mo_dV yX5_placeOf RX5 1 := by unfold mo_dV; decide +kernel
theorem mo_y_yX5_plan : mo_dV yX5_plan RX5 5 := by unfold mo_dV; decide +kernel
theorem mo_y_yX5_planWeek : mo_dV yX5_planWeek RX5 1 := by unfold mo_dV; decide +kernel
theorem mo_y_yX5_plannedOf : mo_dV yX5_plannedOf RX5 1 := by unfold mo_dV; decide +kernel
theorem mo_y_yX5_plans : mo_dV yX5_plans RX5 1 := by unfold mo_dV; decide +kernel
theorem mo_y_yX5_plansOne : mo_dV yX5_plansOne RX5 1 := by unfold mo_dV; decide +kernel
theorem mo_y_yX5_reason : mo_dV yX5_reason RX5 5 := by unfold mo_dV; decide +kernel
theorem mo_y_yX5_save : mo_dV yX5_save RX5 0 := by unfold mo_dV; decide +kernel
theorem mo_y_yX5_setSlots : mo_dV yX5_setSlots RX5 2 := by unfold mo_dV; decide +kernel
theorem mo_y_yX5_settled : mo_dV yX5_settled RX5 0 := by unfold mo_dV; decide +kernel
theorem mo_y_yX5_settledIn : mo_dV yX5_settledIn RX5 0 := by unfold mo_dV; decide +kernel
theorem mo_y_yX5_slotFor : mo_dV yX5_slotFor RX5 2 := by unfold mo_dV; decide +kernel
theorem mo_y_yX5_stands : mo_dV yX5_stands RX5 2 := by unfold mo_dV; decide +kernel
theorem mo_y_yX5_takeBack : mo_dV yX5_takeBack RX5 0 := by unfold mo_dV; decide +kernel
theorem mo_y_yX5_takeOut : mo_dV yX5_takeOut RX5 1 := by unfold mo_dV; decide +kernel
theorem mo_y_yX5_takesByte : mo_dV yX5_takesByte RX5 1 := by unfold mo_dV; decide +kernel
theorem mo_y_yX5_takesDigit : mo_dV yX5_takesDigit RX5 1 := by unfold mo_dV; decide +kernel
theorem mo_y_yX5_takesNumber : mo_dV yX5_takesNumber RX5 2 := by unfold mo_dV; decide +kernel
theorem mo_y_yX5_takesOrder : mo_dV yX5_takesOrder RX5 0 := by unfold mo_dV; decide +kernel
theorem mo_y_yX5_takesParts : mo_dV yX5_takesParts RX5 0 := by unfold mo_dV; decide +kernel
theorem mo_y_yX5_tell : mo_dV yX5_tell RX5 2 := by unfold mo_dV; decide +kernel
theorem mo_y_yX5_tells : mo_dV yX5_tells RX5 2 := by unfold mo_dV; decide +kernel
theorem mo_y_yX5_thrown : mo_dV yX5_thrown RX5 0 := by unfold mo_dV; decide +kernel
theorem mo_y_yX5_undo : mo_dV yX5_undo RX5 0 := by unfold mo_dV; decide +kernel
theorem mo_y_yX5_value : mo_dV yX5_value RX5 1 := by unfold mo_dV; decide +kernel
theorem mo_y_yX5_venueFor : mo_dV yX5_venueFor RX5 2 := by unfold mo_dV; decide +kernel
theorem mo_y_yX5_why : mo_dV yX5_why RX5 5 := by unfold mo_dV; decide +kernel
theorem mo_y_yX5_whyEscort : mo_dV yX5_whyEscort RX5 2 := by unfold mo_dV; decide +kernel
end
