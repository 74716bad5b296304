section
-- ===== PART A: goes FIRST, ahead of the names: the tables' words, and 'selects' of the private methods out of them =====
/-- a private method of a class that the tables say can be made, by its rows of tables_1 -/
def lw_okq (q : MethodName × Nat) : Prop := (q.1.cls ≠ "java/lang/invoke/MethodHandle" ∧ q.1.cls ≠ "java/lang/invoke/VarHandle") ∧ Cond.instantiable q.1.cls q.2 ∈ tables_1 ∧ Cond.privateMethod q.1 ∈ tables_1 ∧ Cond.instanceMethod q.1 ∈ tables_1
theorem lw_p0 : lw_okq (⟨"JesterUnion", "admit", "(I)I"⟩, 10) := ⟨⟨by decide +kernel, by decide +kernel⟩, List.mem_of_getElem? (i := 21) (by decide +kernel), List.mem_of_getElem? (i := 326) (by decide +kernel), List.mem_of_getElem? (i := 327) (by decide +kernel)⟩
theorem lw_p1 : lw_okq (⟨"JesterUnion", "refuse", "(II)I"⟩, 10) := ⟨⟨by decide +kernel, by decide +kernel⟩, List.mem_of_getElem? (i := 21) (by decide +kernel), List.mem_of_getElem? (i := 330) (by decide +kernel), List.mem_of_getElem? (i := 331) (by decide +kernel)⟩
theorem lw_p2 : lw_okq (⟨"JesterUnion", "remember", "(I)I"⟩, 10) := ⟨⟨by decide +kernel, by decide +kernel⟩, List.mem_of_getElem? (i := 21) (by decide +kernel), List.mem_of_getElem? (i := 338) (by decide +kernel), List.mem_of_getElem? (i := 339) (by decide +kernel)⟩
theorem lw_p3 : lw_okq (⟨"JesterUnion", "invent", "(I)I"⟩, 10) := ⟨⟨by decide +kernel, by decide +kernel⟩, List.mem_of_getElem? (i := 21) (by decide +kernel), List.mem_of_getElem? (i := 352) (by decide +kernel), List.mem_of_getElem? (i := 353) (by decide +kernel)⟩
theorem lw_p4 : lw_okq (⟨"JesterUnion", "grant", "(III)I"⟩, 10) := ⟨⟨by decide +kernel, by decide +kernel⟩, List.mem_of_getElem? (i := 21) (by decide +kernel), List.mem_of_getElem? (i := 364) (by decide +kernel), List.mem_of_getElem? (i := 365) (by decide +kernel)⟩
theorem lw_p5 : lw_okq (⟨"JesterUnion", "cover", "(I)I"⟩, 10) := ⟨⟨by decide +kernel, by decide +kernel⟩, List.mem_of_getElem? (i := 21) (by decide +kernel), List.mem_of_getElem? (i := 389) (by decide +kernel), List.mem_of_getElem? (i := 390) (by decide +kernel)⟩
theorem lw_p6 : lw_okq (⟨"JesterUnion", "collect", "(I)I"⟩, 10) := ⟨⟨by decide +kernel, by decide +kernel⟩, List.mem_of_getElem? (i := 21) (by decide +kernel), List.mem_of_getElem? (i := 397) (by decide +kernel), List.mem_of_getElem? (i := 398) (by decide +kernel)⟩
theorem lw_p7 : lw_okq (⟨"JesterUnion", "setExempt", "(II)I"⟩, 10) := ⟨⟨by decide +kernel, by decide +kernel⟩, List.mem_of_getElem? (i := 21) (by decide +kernel), List.mem_of_getElem? (i := 430) (by decide +kernel), List.mem_of_getElem? (i := 431) (by decide +kernel)⟩
theorem lw_p8 : lw_okq (⟨"JesterUnion", "reserve", "(IIII)I"⟩, 10) := ⟨⟨by decide +kernel, by decide +kernel⟩, List.mem_of_getElem? (i := 21) (by decide +kernel), List.mem_of_getElem? (i := 457) (by decide +kernel), List.mem_of_getElem? (i := 458) (by decide +kernel)⟩
theorem lw_p9 : lw_okq (⟨"JesterUnion$Court", "isAhead", "(IIII)Z"⟩, 10) := ⟨⟨by decide +kernel, by decide +kernel⟩, List.mem_of_getElem? (i := 29) (by decide +kernel), List.mem_of_getElem? (i := 473) (by decide +kernel), List.mem_of_getElem? (i := 474) (by decide +kernel)⟩
theorem lw_p10 : lw_okq (⟨"JesterUnion$Bookings", "move", "(II)V"⟩, 5) := ⟨⟨by decide +kernel, by decide +kernel⟩, List.mem_of_getElem? (i := 107) (by decide +kernel), List.mem_of_getElem? (i := 481) (by decide +kernel), List.mem_of_getElem? (i := 482) (by decide +kernel)⟩
theorem lw_p11 : lw_okq (⟨"JesterUnion", "carryNextOut", "()I"⟩, 10) := ⟨⟨by decide +kernel, by decide +kernel⟩, List.mem_of_getElem? (i := 21) (by decide +kernel), List.mem_of_getElem? (i := 489) (by decide +kernel), List.mem_of_getElem? (i := 490) (by decide +kernel)⟩
theorem lw_p12 : lw_okq (⟨"JesterUnion$Court", "payFine", "(II)V"⟩, 10) := ⟨⟨by decide +kernel, by decide +kernel⟩, List.mem_of_getElem? (i := 29) (by decide +kernel), List.mem_of_getElem? (i := 502) (by decide +kernel), List.mem_of_getElem? (i := 503) (by decide +kernel)⟩
theorem lw_p13 : lw_okq (⟨"JesterUnion$Court", "gain", "(II)V"⟩, 10) := ⟨⟨by decide +kernel, by decide +kernel⟩, List.mem_of_getElem? (i := 29) (by decide +kernel), List.mem_of_getElem? (i := 506) (by decide +kernel), List.mem_of_getElem? (i := 507) (by decide +kernel)⟩
theorem lw_p14 : lw_okq (⟨"JesterUnion$Court", "perform", "(III)I"⟩, 10) := ⟨⟨by decide +kernel, by decide +kernel⟩, List.mem_of_getElem? (i := 29) (by decide +kernel), List.mem_of_getElem? (i := 510) (by decide +kernel), List.mem_of_getElem? (i := 511) (by decide +kernel)⟩
theorem lw_p15 : lw_okq (⟨"JesterUnion$Court", "laughs", "(III)I"⟩, 10) := ⟨⟨by decide +kernel, by decide +kernel⟩, List.mem_of_getElem? (i := 29) (by decide +kernel), List.mem_of_getElem? (i := 514) (by decide +kernel), List.mem_of_getElem? (i := 515) (by decide +kernel)⟩
def lw_privs_1 : List (MethodName × Nat) := [(⟨"JesterUnion", "admit", "(I)I"⟩, 10), (⟨"JesterUnion", "refuse", "(II)I"⟩, 10), (⟨"JesterUnion", "remember", "(I)I"⟩, 10), (⟨"JesterUnion", "invent", "(I)I"⟩, 10), (⟨"JesterUnion", "grant", "(III)I"⟩, 10), (⟨"JesterUnion", "cover", "(I)I"⟩, 10), (⟨"JesterUnion", "collect", "(I)I"⟩, 10), (⟨"JesterUnion", "setExempt", "(II)I"⟩, 10), (⟨"JesterUnion", "reserve", "(IIII)I"⟩, 10), (⟨"JesterUnion$Court", "isAhead", "(IIII)Z"⟩, 10), (⟨"JesterUnion$Bookings", "move", "(II)V"⟩, 5), (⟨"JesterUnion", "carryNextOut", "()I"⟩, 10), (⟨"JesterUnion$Court", "payFine", "(II)V"⟩, 10), (⟨"JesterUnion$Court", "gain", "(II)V"⟩, 10), (⟨"JesterUnion$Court", "perform", "(III)I"⟩, 10), (⟨"JesterUnion$Court", "laughs", "(III)I"⟩, 10)]
theorem lw_r1 : ∀ q ∈ lw_privs_1, lw_okq q := List.forall_mem_cons.mpr ⟨lw_p0, List.forall_mem_cons.mpr ⟨lw_p1, List.forall_mem_cons.mpr ⟨lw_p2, List.forall_mem_cons.mpr ⟨lw_p3, List.forall_mem_cons.mpr ⟨lw_p4, List.forall_mem_cons.mpr ⟨lw_p5, List.forall_mem_cons.mpr ⟨lw_p6, List.forall_mem_cons.mpr ⟨lw_p7, List.forall_mem_cons.mpr ⟨lw_p8, List.forall_mem_cons.mpr ⟨lw_p9, List.forall_mem_cons.mpr ⟨lw_p10, List.forall_mem_cons.mpr ⟨lw_p11, List.forall_mem_cons.mpr ⟨lw_p12, List.forall_mem_cons.mpr ⟨lw_p13, List.forall_mem_cons.mpr ⟨lw_p14, List.forall_mem_cons.mpr ⟨lw_p15, fun _ h => absurd h List.not_mem_nil⟩⟩⟩⟩⟩⟩⟩⟩⟩⟩⟩⟩⟩⟩⟩⟩
theorem lw_p16 : lw_okq (⟨"JesterUnion", "elapse", "(I)I"⟩, 10) := ⟨⟨by decide +kernel, by decide +kernel⟩, List.mem_of_getElem? (i := 21) (by decide +kernel), List.mem_of_getElem? (i := 531) (by decide +kernel), List.mem_of_getElem? (i := 532) (by decide +kernel)⟩
theorem lw_p17 : lw_okq (⟨"JesterUnion$Court", "doesAnyEndAt", "(I)Z"⟩, 10) := ⟨⟨by decide +kernel, by decide +kernel⟩, List.mem_of_getElem? (i := 29) (by decide +kernel), List.mem_of_getElem? (i := 584) (by decide +kernel), List.mem_of_getElem? (i := 585) (by decide +kernel)⟩
theorem lw_p18 : lw_okq (⟨"JesterUnion$Fools", "countAhead", "(I)I"⟩, 7) := ⟨⟨by decide +kernel, by decide +kernel⟩, List.mem_of_getElem? (i := 35) (by decide +kernel), List.mem_of_getElem? (i := 600) (by decide +kernel), List.mem_of_getElem? (i := 601) (by decide +kernel)⟩
theorem lw_p19 : lw_okq (⟨"JesterUnion$Fools", "isAhead", "(II)Z"⟩, 7) := ⟨⟨by decide +kernel, by decide +kernel⟩, List.mem_of_getElem? (i := 35) (by decide +kernel), List.mem_of_getElem? (i := 604) (by decide +kernel), List.mem_of_getElem? (i := 605) (by decide +kernel)⟩
theorem lw_p20 : lw_okq (⟨"JesterUnion$Jokes", "countAhead", "(I)I"⟩, 5) := ⟨⟨by decide +kernel, by decide +kernel⟩, List.mem_of_getElem? (i := 77) (by decide +kernel), List.mem_of_getElem? (i := 616) (by decide +kernel), List.mem_of_getElem? (i := 617) (by decide +kernel)⟩
theorem lw_p21 : lw_okq (⟨"JesterUnion$Jokes", "isAhead", "(II)Z"⟩, 5) := ⟨⟨by decide +kernel, by decide +kernel⟩, List.mem_of_getElem? (i := 77) (by decide +kernel), List.mem_of_getElem? (i := 620) (by decide +kernel), List.mem_of_getElem? (i := 621) (by decide +kernel)⟩
theorem lw_p22 : lw_okq (⟨"JesterUnion$OrderText", "readOrder", "()Z"⟩, 6) := ⟨⟨by decide +kernel, by decide +kernel⟩, List.mem_of_getElem? (i := 200) (by decide +kernel), List.mem_of_getElem? (i := 733) (by decide +kernel), List.mem_of_getElem? (i := 734) (by decide +kernel)⟩
theorem lw_p23 : lw_okq (⟨"JesterUnion$OrderText", "readPart", "(C)Z"⟩, 6) := ⟨⟨by decide +kernel, by decide +kernel⟩, List.mem_of_getElem? (i := 200) (by decide +kernel), List.mem_of_getElem? (i := 792) (by decide +kernel), List.mem_of_getElem? (i := 793) (by decide +kernel)⟩
theorem lw_p24 : lw_okq (⟨"JesterUnion$OrderText", "readNumber", "(I)Z"⟩, 6) := ⟨⟨by decide +kernel, by decide +kernel⟩, List.mem_of_getElem? (i := 200) (by decide +kernel), List.mem_of_getElem? (i := 796) (by decide +kernel), List.mem_of_getElem? (i := 797) (by decide +kernel)⟩
theorem lw_p25 : lw_okq (⟨"JesterUnion$OrderText", "isDigitAhead", "()Z"⟩, 6) := ⟨⟨by decide +kernel, by decide +kernel⟩, List.mem_of_getElem? (i := 200) (by decide +kernel), List.mem_of_getElem? (i := 800) (by decide +kernel), List.mem_of_getElem? (i := 801) (by decide +kernel)⟩
theorem lw_p26 : lw_okq (⟨"JesterUnion$OrderText", "keepNumber", "(I)V"⟩, 6) := ⟨⟨by decide +kernel, by decide +kernel⟩, List.mem_of_getElem? (i := 200) (by decide +kernel), List.mem_of_getElem? (i := 804) (by decide +kernel), List.mem_of_getElem? (i := 805) (by decide +kernel)⟩
theorem lw_p27 : lw_okq (⟨"JesterUnion$OrderText", "readPlusOrMinus", "()Z"⟩, 6) := ⟨⟨by decide +kernel, by decide +kernel⟩, List.mem_of_getElem? (i := 200) (by decide +kernel), List.mem_of_getElem? (i := 808) (by decide +kernel), List.mem_of_getElem? (i := 809) (by decide +kernel)⟩
theorem lw_p28 : lw_okq (⟨"JesterUnion$OrderText", "readSign", "(C)Z"⟩, 6) := ⟨⟨by decide +kernel, by decide +kernel⟩, List.mem_of_getElem? (i := 200) (by decide +kernel), List.mem_of_getElem? (i := 812) (by decide +kernel), List.mem_of_getElem? (i := 813) (by decide +kernel)⟩
theorem lw_p29 : lw_okq (⟨"JesterUnion", "carryOrderOut", "(I)I"⟩, 10) := ⟨⟨by decide +kernel, by decide +kernel⟩, List.mem_of_getElem? (i := 21) (by decide +kernel), List.mem_of_getElem? (i := 836) (by decide +kernel), List.mem_of_getElem? (i := 837) (by decide +kernel)⟩
theorem lw_p30 : lw_okq (⟨"JesterUnion", "write", "(CI)V"⟩, 10) := ⟨⟨by decide +kernel, by decide +kernel⟩, List.mem_of_getElem? (i := 21) (by decide +kernel), List.mem_of_getElem? (i := 886) (by decide +kernel), List.mem_of_getElem? (i := 887) (by decide +kernel)⟩
theorem lw_p31 : lw_okq (⟨"JesterUnion", "areCoinsAccountedFor", "()Z"⟩, 10) := ⟨⟨by decide +kernel, by decide +kernel⟩, List.mem_of_getElem? (i := 21) (by decide +kernel), List.mem_of_getElem? (i := 911) (by decide +kernel), List.mem_of_getElem? (i := 912) (by decide +kernel)⟩
def lw_privs_2 : List (MethodName × Nat) := [(⟨"JesterUnion", "elapse", "(I)I"⟩, 10), (⟨"JesterUnion$Court", "doesAnyEndAt", "(I)Z"⟩, 10), (⟨"JesterUnion$Fools", "countAhead", "(I)I"⟩, 7), (⟨"JesterUnion$Fools", "isAhead", "(II)Z"⟩, 7), (⟨"JesterUnion$Jokes", "countAhead", "(I)I"⟩, 5), (⟨"JesterUnion$Jokes", "isAhead", "(II)Z"⟩, 5), (⟨"JesterUnion$OrderText", "readOrder", "()Z"⟩, 6), (⟨"JesterUnion$OrderText", "readPart", "(C)Z"⟩, 6), (⟨"JesterUnion$OrderText", "readNumber", "(I)Z"⟩, 6), (⟨"JesterUnion$OrderText", "isDigitAhead", "()Z"⟩, 6), (⟨"JesterUnion$OrderText", "keepNumber", "(I)V"⟩, 6), (⟨"JesterUnion$OrderText", "readPlusOrMinus", "()Z"⟩, 6), (⟨"JesterUnion$OrderText", "readSign", "(C)Z"⟩, 6), (⟨"JesterUnion", "carryOrderOut", "(I)I"⟩, 10), (⟨"JesterUnion", "write", "(CI)V"⟩, 10), (⟨"JesterUnion", "areCoinsAccountedFor", "()Z"⟩, 10)]
theorem lw_r2 : ∀ q ∈ lw_privs_2, lw_okq q := List.forall_mem_cons.mpr ⟨lw_p16, List.forall_mem_cons.mpr ⟨lw_p17, List.forall_mem_cons.mpr ⟨lw_p18, List.forall_mem_cons.mpr ⟨lw_p19, List.forall_mem_cons.mpr ⟨lw_p20, List.forall_mem_cons.mpr ⟨lw_p21, List.forall_mem_cons.mpr ⟨lw_p22, List.forall_mem_cons.mpr ⟨lw_p23, List.forall_mem_cons.mpr ⟨lw_p24, List.forall_mem_cons.mpr ⟨lw_p25, List.forall_mem_cons.mpr ⟨lw_p26, List.forall_mem_cons.mpr ⟨lw_p27, List.forall_mem_cons.mpr ⟨lw_p28, List.forall_mem_cons.mpr ⟨lw_p29, List.forall_mem_cons.mpr ⟨lw_p30, List.forall_mem_cons.mpr ⟨lw_p31, fun _ h => absurd h List.not_mem_nil⟩⟩⟩⟩⟩⟩⟩⟩⟩⟩⟩⟩⟩⟩⟩⟩
theorem lw_p32 : lw_okq (⟨"JesterUnion", "areTellingsAccountedFor", "()Z"⟩, 10) := ⟨⟨by decide +kernel, by decide +kernel⟩, List.mem_of_getElem? (i := 21) (by decide +kernel), List.mem_of_getElem? (i := 915) (by decide +kernel), List.mem_of_getElem? (i := 916) (by decide +kernel)⟩
theorem lw_p33 : lw_okq (⟨"JesterUnion", "areBestsTheSame", "()Z"⟩, 10) := ⟨⟨by decide +kernel, by decide +kernel⟩, List.mem_of_getElem? (i := 21) (by decide +kernel), List.mem_of_getElem? (i := 919) (by decide +kernel), List.mem_of_getElem? (i := 920) (by decide +kernel)⟩
theorem lw_p34 : lw_okq (⟨"JesterUnionModel", "begins", "()V"⟩, 18) := ⟨⟨by decide +kernel, by decide +kernel⟩, List.mem_of_getElem? (i := 951) (by decide +kernel), List.mem_of_getElem? (i := 1016) (by decide +kernel), List.mem_of_getElem? (i := 1017) (by decide +kernel)⟩
theorem lw_p35 : lw_okq (⟨"JesterUnionModel", "comes", "(I)I"⟩, 18) := ⟨⟨by decide +kernel, by decide +kernel⟩, List.mem_of_getElem? (i := 951) (by decide +kernel), List.mem_of_getElem? (i := 1023) (by decide +kernel), List.mem_of_getElem? (i := 1024) (by decide +kernel)⟩
theorem lw_p36 : lw_okq (⟨"JesterUnionModel", "fail", "(I)I"⟩, 18) := ⟨⟨by decide +kernel, by decide +kernel⟩, List.mem_of_getElem? (i := 951) (by decide +kernel), List.mem_of_getElem? (i := 1030) (by decide +kernel), List.mem_of_getElem? (i := 1031) (by decide +kernel)⟩
theorem lw_p37 : lw_okq (⟨"JesterUnionModel", "refuses", "(II)I"⟩, 18) := ⟨⟨by decide +kernel, by decide +kernel⟩, List.mem_of_getElem? (i := 951) (by decide +kernel), List.mem_of_getElem? (i := 1034) (by decide +kernel), List.mem_of_getElem? (i := 1035) (by decide +kernel)⟩
theorem lw_p38 : lw_okq (⟨"JesterUnionModel", "closes", "(I)I"⟩, 18) := ⟨⟨by decide +kernel, by decide +kernel⟩, List.mem_of_getElem? (i := 951) (by decide +kernel), List.mem_of_getElem? (i := 1041) (by decide +kernel), List.mem_of_getElem? (i := 1042) (by decide +kernel)⟩
theorem lw_p39 : lw_okq (⟨"JesterUnionModel", "jokes", "(I)I"⟩, 18) := ⟨⟨by decide +kernel, by decide +kernel⟩, List.mem_of_getElem? (i := 951) (by decide +kernel), List.mem_of_getElem? (i := 1049) (by decide +kernel), List.mem_of_getElem? (i := 1050) (by decide +kernel)⟩
theorem lw_p40 : lw_okq (⟨"JesterUnionModel", "patents", "(III)I"⟩, 18) := ⟨⟨by decide +kernel, by decide +kernel⟩, List.mem_of_getElem? (i := 951) (by decide +kernel), List.mem_of_getElem? (i := 1060) (by decide +kernel), List.mem_of_getElem? (i := 1061) (by decide +kernel)⟩
theorem lw_p41 : lw_okq (⟨"JesterUnionModel", "isFool", "(I)Z"⟩, 18) := ⟨⟨by decide +kernel, by decide +kernel⟩, List.mem_of_getElem? (i := 951) (by decide +kernel), List.mem_of_getElem? (i := 1064) (by decide +kernel), List.mem_of_getElem? (i := 1065) (by decide +kernel)⟩
theorem lw_p42 : lw_okq (⟨"JesterUnionModel", "isJoke", "(I)Z"⟩, 18) := ⟨⟨by decide +kernel, by decide +kernel⟩, List.mem_of_getElem? (i := 951) (by decide +kernel), List.mem_of_getElem? (i := 1068) (by decide +kernel), List.mem_of_getElem? (i := 1069) (by decide +kernel)⟩
theorem lw_p43 : lw_okq (⟨"JesterUnionModel", "owner", "(I)I"⟩, 18) := ⟨⟨by decide +kernel, by decide +kernel⟩, List.mem_of_getElem? (i := 951) (by decide +kernel), List.mem_of_getElem? (i := 1072) (by decide +kernel), List.mem_of_getElem? (i := 1073) (by decide +kernel)⟩
theorem lw_p44 : lw_okq (⟨"JesterUnionModel", "pays", "(II)I"⟩, 18) := ⟨⟨by decide +kernel, by decide +kernel⟩, List.mem_of_getElem? (i := 951) (by decide +kernel), List.mem_of_getElem? (i := 1076) (by decide +kernel), List.mem_of_getElem? (i := 1077) (by decide +kernel)⟩
theorem lw_p45 : lw_okq (⟨"JesterUnionModel", "insures", "(I)I"⟩, 18) := ⟨⟨by decide +kernel, by decide +kernel⟩, List.mem_of_getElem? (i := 951) (by decide +kernel), List.mem_of_getElem? (i := 1084) (by decide +kernel), List.mem_of_getElem? (i := 1085) (by decide +kernel)⟩
theorem lw_p46 : lw_okq (⟨"JesterUnionModel", "audits", "(I)I"⟩, 18) := ⟨⟨by decide +kernel, by decide +kernel⟩, List.mem_of_getElem? (i := 951) (by decide +kernel), List.mem_of_getElem? (i := 1092) (by decide +kernel), List.mem_of_getElem? (i := 1093) (by decide +kernel)⟩
theorem lw_p47 : lw_okq (⟨"JesterUnionModel", "patentsOf", "(I)I"⟩, 18) := ⟨⟨by decide +kernel, by decide +kernel⟩, List.mem_of_getElem? (i := 951) (by decide +kernel), List.mem_of_getElem? (i := 1100) (by decide +kernel), List.mem_of_getElem? (i := 1101) (by decide +kernel)⟩
def lw_privs_3 : List (MethodName × Nat) := [(⟨"JesterUnion", "areTellingsAccountedFor", "()Z"⟩, 10), (⟨"JesterUnion", "areBestsTheSame", "()Z"⟩, 10), (⟨"JesterUnionModel", "begins", "()V"⟩, 18), (⟨"JesterUnionModel", "comes", "(I)I"⟩, 18), (⟨"JesterUnionModel", "fail", "(I)I"⟩, 18), (⟨"JesterUnionModel", "refuses", "(II)I"⟩, 18), (⟨"JesterUnionModel", "closes", "(I)I"⟩, 18), (⟨"JesterUnionModel", "jokes", "(I)I"⟩, 18), (⟨"JesterUnionModel", "patents", "(III)I"⟩, 18), (⟨"JesterUnionModel", "isFool", "(I)Z"⟩, 18), (⟨"JesterUnionModel", "isJoke", "(I)Z"⟩, 18), (⟨"JesterUnionModel", "owner", "(I)I"⟩, 18), (⟨"JesterUnionModel", "pays", "(II)I"⟩, 18), (⟨"JesterUnionModel", "insures", "(I)I"⟩, 18), (⟨"JesterUnionModel", "audits", "(I)I"⟩, 18), (⟨"JesterUnionModel", "patentsOf", "(I)I"⟩, 18)]
theorem lw_r3 : ∀ q ∈ lw_privs_3, lw_okq q := List.forall_mem_cons.mpr ⟨lw_p32, List.forall_mem_cons.mpr ⟨lw_p33, List.forall_mem_cons.mpr ⟨lw_p34, List.forall_mem_cons.mpr ⟨lw_p35, List.forall_mem_cons.mpr ⟨lw_p36, List.forall_mem_cons.mpr ⟨lw_p37, List.forall_mem_cons.mpr ⟨lw_p38, List.forall_mem_cons.mpr ⟨lw_p39, List.forall_mem_cons.mpr ⟨lw_p40, List.forall_mem_cons.mpr ⟨lw_p41, List.forall_mem_cons.mpr ⟨lw_p42, List.forall_mem_cons.mpr ⟨lw_p43, List.forall_mem_cons.mpr ⟨lw_p44, List.forall_mem_cons.mpr ⟨lw_p45, List.forall_mem_cons.mpr ⟨lw_p46, List.forall_mem_cons.mpr ⟨lw_p47, fun _ h => absurd h List.not_mem_nil⟩⟩⟩⟩⟩⟩⟩⟩⟩⟩⟩⟩⟩⟩⟩⟩
theorem lw_p48 : lw_okq (⟨"JesterUnionModel", "bookings", "(II)I"⟩, 18) := ⟨⟨by decide +kernel, by decide +kernel⟩, List.mem_of_getElem? (i := 951) (by decide +kernel), List.mem_of_getElem? (i := 1104) (by decide +kernel), List.mem_of_getElem? (i := 1105) (by decide +kernel)⟩
theorem lw_p49 : lw_okq (⟨"JesterUnionModel", "booked", "(II)I"⟩, 18) := ⟨⟨by decide +kernel, by decide +kernel⟩, List.mem_of_getElem? (i := 951) (by decide +kernel), List.mem_of_getElem? (i := 1108) (by decide +kernel), List.mem_of_getElem? (i := 1109) (by decide +kernel)⟩
theorem lw_p50 : lw_okq (⟨"JesterUnionModel", "tellings", "(I)I"⟩, 18) := ⟨⟨by decide +kernel, by decide +kernel⟩, List.mem_of_getElem? (i := 951) (by decide +kernel), List.mem_of_getElem? (i := 1116) (by decide +kernel), List.mem_of_getElem? (i := 1117) (by decide +kernel)⟩
theorem lw_p51 : lw_okq (⟨"JesterUnionModel", "exempts", "(II)I"⟩, 18) := ⟨⟨by decide +kernel, by decide +kernel⟩, List.mem_of_getElem? (i := 951) (by decide +kernel), List.mem_of_getElem? (i := 1124) (by decide +kernel), List.mem_of_getElem? (i := 1125) (by decide +kernel)⟩
theorem lw_p52 : lw_okq (⟨"JesterUnionModel", "books", "(IIII)I"⟩, 18) := ⟨⟨by decide +kernel, by decide +kernel⟩, List.mem_of_getElem? (i := 951) (by decide +kernel), List.mem_of_getElem? (i := 1146) (by decide +kernel), List.mem_of_getElem? (i := 1147) (by decide +kernel)⟩
theorem lw_p53 : lw_okq (⟨"JesterUnionModel", "jokeFor", "(II)I"⟩, 18) := ⟨⟨by decide +kernel, by decide +kernel⟩, List.mem_of_getElem? (i := 951) (by decide +kernel), List.mem_of_getElem? (i := 1150) (by decide +kernel), List.mem_of_getElem? (i := 1151) (by decide +kernel)⟩
theorem lw_p54 : lw_okq (⟨"JesterUnionModel", "isBarred", "(II)Z"⟩, 18) := ⟨⟨by decide +kernel, by decide +kernel⟩, List.mem_of_getElem? (i := 951) (by decide +kernel), List.mem_of_getElem? (i := 1154) (by decide +kernel), List.mem_of_getElem? (i := 1155) (by decide +kernel)⟩
theorem lw_p55 : lw_okq (⟨"JesterUnionModel", "isAhead", "(IIII)Z"⟩, 18) := ⟨⟨by decide +kernel, by decide +kernel⟩, List.mem_of_getElem? (i := 951) (by decide +kernel), List.mem_of_getElem? (i := 1158) (by decide +kernel), List.mem_of_getElem? (i := 1159) (by decide +kernel)⟩
theorem lw_p56 : lw_okq (⟨"JesterUnionModel", "carries", "()I"⟩, 18) := ⟨⟨by decide +kernel, by decide +kernel⟩, List.mem_of_getElem? (i := 951) (by decide +kernel), List.mem_of_getElem? (i := 1166) (by decide +kernel), List.mem_of_getElem? (i := 1167) (by decide +kernel)⟩
theorem lw_p57 : lw_okq (⟨"JesterUnionModel", "earns", "(II)V"⟩, 18) := ⟨⟨by decide +kernel, by decide +kernel⟩, List.mem_of_getElem? (i := 951) (by decide +kernel), List.mem_of_getElem? (i := 1170) (by decide +kernel), List.mem_of_getElem? (i := 1171) (by decide +kernel)⟩
theorem lw_p58 : lw_okq (⟨"JesterUnionModel", "tells", "(III)I"⟩, 18) := ⟨⟨by decide +kernel, by decide +kernel⟩, List.mem_of_getElem? (i := 951) (by decide +kernel), List.mem_of_getElem? (i := 1174) (by decide +kernel), List.mem_of_getElem? (i := 1175) (by decide +kernel)⟩
theorem lw_p59 : lw_okq (⟨"JesterUnionModel", "laughs", "(III)I"⟩, 18) := ⟨⟨by decide +kernel, by decide +kernel⟩, List.mem_of_getElem? (i := 951) (by decide +kernel), List.mem_of_getElem? (i := 1178) (by decide +kernel), List.mem_of_getElem? (i := 1179) (by decide +kernel)⟩
theorem lw_p60 : lw_okq (⟨"JesterUnionModel", "slips", "(I)V"⟩, 18) := ⟨⟨by decide +kernel, by decide +kernel⟩, List.mem_of_getElem? (i := 951) (by decide +kernel), List.mem_of_getElem? (i := 1182) (by decide +kernel), List.mem_of_getElem? (i := 1183) (by decide +kernel)⟩
theorem lw_p61 : lw_okq (⟨"JesterUnionModel", "passes", "(I)I"⟩, 18) := ⟨⟨by decide +kernel, by decide +kernel⟩, List.mem_of_getElem? (i := 951) (by decide +kernel), List.mem_of_getElem? (i := 1190) (by decide +kernel), List.mem_of_getElem? (i := 1191) (by decide +kernel)⟩
theorem lw_p62 : lw_okq (⟨"JesterUnionModel", "wouldGet", "(III)I"⟩, 18) := ⟨⟨by decide +kernel, by decide +kernel⟩, List.mem_of_getElem? (i := 951) (by decide +kernel), List.mem_of_getElem? (i := 1202) (by decide +kernel), List.mem_of_getElem? (i := 1203) (by decide +kernel)⟩
theorem lw_p63 : lw_okq (⟨"JesterUnionModel", "all", "(I)I"⟩, 18) := ⟨⟨by decide +kernel, by decide +kernel⟩, List.mem_of_getElem? (i := 951) (by decide +kernel), List.mem_of_getElem? (i := 1228) (by decide +kernel), List.mem_of_getElem? (i := 1229) (by decide +kernel)⟩
def lw_privs_4 : List (MethodName × Nat) := [(⟨"JesterUnionModel", "bookings", "(II)I"⟩, 18), (⟨"JesterUnionModel", "booked", "(II)I"⟩, 18), (⟨"JesterUnionModel", "tellings", "(I)I"⟩, 18), (⟨"JesterUnionModel", "exempts", "(II)I"⟩, 18), (⟨"JesterUnionModel", "books", "(IIII)I"⟩, 18), (⟨"JesterUnionModel", "jokeFor", "(II)I"⟩, 18), (⟨"JesterUnionModel", "isBarred", "(II)Z"⟩, 18), (⟨"JesterUnionModel", "isAhead", "(IIII)Z"⟩, 18), (⟨"JesterUnionModel", "carries", "()I"⟩, 18), (⟨"JesterUnionModel", "earns", "(II)V"⟩, 18), (⟨"JesterUnionModel", "tells", "(III)I"⟩, 18), (⟨"JesterUnionModel", "laughs", "(III)I"⟩, 18), (⟨"JesterUnionModel", "slips", "(I)V"⟩, 18), (⟨"JesterUnionModel", "passes", "(I)I"⟩, 18), (⟨"JesterUnionModel", "wouldGet", "(III)I"⟩, 18), (⟨"JesterUnionModel", "all", "(I)I"⟩, 18)]
theorem lw_r4 : ∀ q ∈ lw_privs_4, lw_okq q := List.forall_mem_cons.mpr ⟨lw_p48, List.forall_mem_cons.mpr ⟨lw_p49, List.forall_mem_cons.mpr ⟨lw_p50, List.forall_mem_cons.mpr ⟨lw_p51, List.forall_mem_cons.mpr ⟨lw_p52, List.forall_mem_cons.mpr ⟨lw_p53, List.forall_mem_cons.mpr ⟨lw_p54, List.forall_mem_cons.mpr ⟨lw_p55, List.forall_mem_cons.mpr ⟨lw_p56, List.forall_mem_cons.mpr ⟨lw_p57, List.forall_mem_cons.mpr ⟨lw_p58, List.forall_mem_cons.mpr ⟨lw_p59, List.forall_mem_cons.mpr ⟨lw_p60, List.forall_mem_cons.mpr ⟨lw_p61, List.forall_mem_cons.mpr ⟨lw_p62, List.forall_mem_cons.mpr ⟨lw_p63, fun _ h => absurd h List.not_mem_nil⟩⟩⟩⟩⟩⟩⟩⟩⟩⟩⟩⟩⟩⟩⟩⟩
theorem lw_p64 : lw_okq (⟨"JesterUnionModel", "orders", "()I"⟩, 18) := ⟨⟨by decide +kernel, by decide +kernel⟩, List.mem_of_getElem? (i := 951) (by decide +kernel), List.mem_of_getElem? (i := 1248) (by decide +kernel), List.mem_of_getElem? (i := 1249) (by decide +kernel)⟩
theorem lw_p65 : lw_okq (⟨"JesterUnionModel", "order", "()V"⟩, 18) := ⟨⟨by decide +kernel, by decide +kernel⟩, List.mem_of_getElem? (i := 951) (by decide +kernel), List.mem_of_getElem? (i := 1252) (by decide +kernel), List.mem_of_getElem? (i := 1253) (by decide +kernel)⟩
theorem lw_p66 : lw_okq (⟨"JesterUnionModel", "sign", "()I"⟩, 18) := ⟨⟨by decide +kernel, by decide +kernel⟩, List.mem_of_getElem? (i := 951) (by decide +kernel), List.mem_of_getElem? (i := 1256) (by decide +kernel), List.mem_of_getElem? (i := 1257) (by decide +kernel)⟩
theorem lw_p67 : lw_okq (⟨"JesterUnionModel", "digits", "(I)I"⟩, 18) := ⟨⟨by decide +kernel, by decide +kernel⟩, List.mem_of_getElem? (i := 951) (by decide +kernel), List.mem_of_getElem? (i := 1263) (by decide +kernel), List.mem_of_getElem? (i := 1264) (by decide +kernel)⟩
theorem lw_p68 : lw_okq (⟨"JesterUnionModel", "behind", "(II)I"⟩, 18) := ⟨⟨by decide +kernel, by decide +kernel⟩, List.mem_of_getElem? (i := 951) (by decide +kernel), List.mem_of_getElem? (i := 1267) (by decide +kernel), List.mem_of_getElem? (i := 1268) (by decide +kernel)⟩
theorem lw_p69 : lw_okq (⟨"JesterUnionModel", "mark", "(I)V"⟩, 18) := ⟨⟨by decide +kernel, by decide +kernel⟩, List.mem_of_getElem? (i := 951) (by decide +kernel), List.mem_of_getElem? (i := 1271) (by decide +kernel), List.mem_of_getElem? (i := 1272) (by decide +kernel)⟩
theorem lw_p70 : lw_okq (⟨"JesterUnionModel", "plus", "()I"⟩, 18) := ⟨⟨by decide +kernel, by decide +kernel⟩, List.mem_of_getElem? (i := 951) (by decide +kernel), List.mem_of_getElem? (i := 1275) (by decide +kernel), List.mem_of_getElem? (i := 1276) (by decide +kernel)⟩
theorem lw_p71 : lw_okq (⟨"JesterUnionModel", "does", "(IIIII)I"⟩, 18) := ⟨⟨by decide +kernel, by decide +kernel⟩, List.mem_of_getElem? (i := 951) (by decide +kernel), List.mem_of_getElem? (i := 1279) (by decide +kernel), List.mem_of_getElem? (i := 1280) (by decide +kernel)⟩
theorem lw_p72 : lw_okq (⟨"JesterUnionModel", "writesNumber", "(I)V"⟩, 18) := ⟨⟨by decide +kernel, by decide +kernel⟩, List.mem_of_getElem? (i := 951) (by decide +kernel), List.mem_of_getElem? (i := 1287) (by decide +kernel), List.mem_of_getElem? (i := 1288) (by decide +kernel)⟩
theorem lw_p73 : lw_okq (⟨"JesterUnionModel", "writes", "(I)V"⟩, 18) := ⟨⟨by decide +kernel, by decide +kernel⟩, List.mem_of_getElem? (i := 951) (by decide +kernel), List.mem_of_getElem? (i := 1291) (by decide +kernel), List.mem_of_getElem? (i := 1292) (by decide +kernel)⟩
def lw_privs_5 : List (MethodName × Nat) := [(⟨"JesterUnionModel", "orders", "()I"⟩, 18), (⟨"JesterUnionModel", "order", "()V"⟩, 18), (⟨"JesterUnionModel", "sign", "()I"⟩, 18), (⟨"JesterUnionModel", "digits", "(I)I"⟩, 18), (⟨"JesterUnionModel", "behind", "(II)I"⟩, 18), (⟨"JesterUnionModel", "mark", "(I)V"⟩, 18), (⟨"JesterUnionModel", "plus", "()I"⟩, 18), (⟨"JesterUnionModel", "does", "(IIIII)I"⟩, 18), (⟨"JesterUnionModel", "writesNumber", "(I)V"⟩, 18), (⟨"JesterUnionModel", "writes", "(I)V"⟩, 18)]
theorem lw_r5 : ∀ q ∈ lw_privs_5, lw_okq q := List.forall_mem_cons.mpr ⟨lw_p64, List.forall_mem_cons.mpr ⟨lw_p65, List.forall_mem_cons.mpr ⟨lw_p66, List.forall_mem_cons.mpr ⟨lw_p67, List.forall_mem_cons.mpr ⟨lw_p68, List.forall_mem_cons.mpr ⟨lw_p69, List.forall_mem_cons.mpr ⟨lw_p70, List.forall_mem_cons.mpr ⟨lw_p71, List.forall_mem_cons.mpr ⟨lw_p72, List.forall_mem_cons.mpr ⟨lw_p73, fun _ h => absurd h List.not_mem_nil⟩⟩⟩⟩⟩⟩⟩⟩⟩⟩
def lw_privs : List (MethodName × Nat) := lw_privs_1 ++ (lw_privs_2 ++ (lw_privs_3 ++ (lw_privs_4 ++ (lw_privs_5))))
def lw_tbl : List Cond := k2_sels lw_privs ++ tables_1
theorem lw_privs_ok : ∀ q ∈ lw_privs, lw_okq q := by
  show ∀ q ∈ lw_privs_1 ++ (lw_privs_2 ++ (lw_privs_3 ++ (lw_privs_4 ++ (lw_privs_5)))), lw_okq q
  exact List.forall_mem_append.mpr ⟨lw_r1, List.forall_mem_append.mpr ⟨lw_r2, List.forall_mem_append.mpr ⟨lw_r3, List.forall_mem_append.mpr ⟨lw_r4, lw_r5⟩⟩⟩⟩
/-- the streams that the claim lets the run draw from -/
abbrev lw_cs : List Choice := [Jvm.Choice.named "NaN.bits"]
theorem lw_bits : nanBits ∈ lw_cs := by first | decide | exact List.mem_cons_self | simp [lw_cs, nanBits]
-- ===== end of PART A; then your names; then what follows =====
end
section
/-! ===== BEGIN words of one list among another's, by their places ===== -/
theorem goodIn_r {big : List Cond} (ws : List Cond) (ps : List Nat) (hp : ws = ps.filterMap (fun i => big[i]?)) (h : ws.all goodWord = true) : GoodIn big ws := by
  intro w hw
  have h1 := List.all_eq_true.mp h w hw
  rw [hp] at hw
  obtain ⟨i, -, hi⟩ := List.mem_filterMap.mp hw
  have hm : w ∈ big := by first | exact List.mem_of_getElem? hi | exact List.getElem?_mem hi
  exact ⟨hm, good_of_word h1⟩
theorem goodIn_app {big a b : List Cond} (ha : GoodIn big a) (hb : GoodIn big b) : GoodIn big (a ++ b) := fun w h => (List.mem_append.mp h).elim (ha w) (hb w)
theorem goodIn_ca {big a b : List Cond} {c : Cond} (ha : GoodIn big (c :: a)) (hb : GoodIn big b) : GoodIn big (c :: (a ++ b)) := fun w h => (List.mem_cons.mp h).elim (fun e => ha w (List.mem_cons.mpr (Or.inl e))) (fun h => (List.mem_append.mp h).elim (fun h => ha w (List.mem_cons.mpr (Or.inr h))) (hb w))
theorem goodIn_sub {big ws : List Cond} (hm : ∀ w ∈ ws, w ∈ big) (h : ws.all goodWord = true) : GoodIn big ws := fun w hw => ⟨hm w hw, good_of_word (List.all_eq_true.mp h w hw)⟩
/-! ===== END ===== -/

/-! ===== BEGIN printed: names, fields, word lists, decode rows ===== -/
def RX0 : String := "JesterUnion$Bookings"
def TX0 : u_T := fun k => match k with
  | 0 => ("JesterUnion$Bookings", "count", "I", false)
  | 1 => ("JesterUnion$Bookings", "fool", "[I", true)
  | 2 => ("JesterUnion$Bookings", "joke", "[I", true)
  | 3 => ("JesterUnion$Bookings", "throne", "[I", true)
  | _ => ("JesterUnion$Bookings", "hour", "[I", true)
def tyX0 : Nat → FieldType := fun k => match k with
  | 0 => .int
  | 1 => .array .int
  | 2 => .array .int
  | 3 => .array .int
  | _ => .array .int
abbrev wsX00 : List Cond := u_ws RX0 TX0 5
theorem nmX0 : ∀ a, a < 5 → ∀ b, b < 5 → a ≠ b → (TX0 a).2.1 ≠ (TX0 b).2.1 := by decide +kernel
theorem tyX0_ok : ∀ k, k < 5 → parseFieldDescriptor (TX0 k).2.2.1 = some (tyX0 k) := by decide +kernel
abbrev cX0_init : ByteArray := prog_2_method_1_code
def yX0_init : MethodName := ⟨RX0, "<init>", "()V"⟩
abbrev cX0_take : ByteArray := prog_2_method_2_code
def yX0_take : MethodName := ⟨RX0, "take", "(LJesterUnion$Bookings;)V"⟩
abbrev cX0_with : ByteArray := prog_2_method_3_code
def yX0_with : MethodName := ⟨RX0, "with", "([II)I"⟩
abbrev cX0_jokeOfFoolAt : ByteArray := prog_2_method_4_code
def yX0_jokeOfFoolAt : MethodName := ⟨RX0, "jokeOfFoolAt", "(II)I"⟩
abbrev cX0_insert : ByteArray := prog_2_method_5_code
def yX0_insert : MethodName := ⟨RX0, "insert", "(IIIII)V"⟩
abbrev cX0_removeFirst : ByteArray := prog_2_method_6_code
def yX0_removeFirst : MethodName := ⟨RX0, "removeFirst", "()V"⟩
abbrev cX0_move : ByteArray := prog_2_method_7_code
def yX0_move : MethodName := ⟨RX0, "move", "(II)V"⟩
def RX1 : String := "JesterUnion$Court"
def TX1 : u_T := fun k => match k with
  | 0 => ("JesterUnion$Court", "fools", "LJesterUnion$Fools;", true)
  | 1 => ("JesterUnion$Court", "jokes", "LJesterUnion$Jokes;", true)
  | 2 => ("JesterUnion$Court", "bookings", "LJesterUnion$Bookings;", true)
  | 3 => ("JesterUnion$Court", "exempt", "[I", true)
  | 4 => ("JesterUnion$Court", "paid", "[I", true)
  | 5 => ("JesterUnion$Court", "hour", "I", false)
  | 6 => ("JesterUnion$Court", "brought", "I", false)
  | 7 => ("JesterUnion$Court", "union", "I", false)
  | 8 => ("JesterUnion$Court", "lost", "I", false)
  | _ => ("JesterUnion$Court", "carriedOut", "I", false)
def tyX1 : Nat → FieldType := fun k => match k with
  | 0 => .object "JesterUnion$Fools"
  | 1 => .object "JesterUnion$Jokes"
  | 2 => .object "JesterUnion$Bookings"
  | 3 => .array .int
  | 4 => .array .int
  | 5 => .int
  | 6 => .int
  | 7 => .int
  | 8 => .int
  | _ => .int
abbrev wsX10 : List Cond := u_ws RX1 TX1 10
theorem nmX1 : ∀ a, a < 10 → ∀ b, b < 10 → a ≠ b → (TX1 a).2.1 ≠ (TX1 b).2.1 := by decide +kernel
theorem tyX1_ok : ∀ k, k < 10 → parseFieldDescriptor (TX1 k).2.2.1 = some (tyX1 k) := by decide +kernel
abbrev cX1_init : ByteArray := prog_3_method_1_code
def yX1_init : MethodName := ⟨RX1, "<init>", "()V"⟩
abbrev cX1_take : ByteArray := prog_3_method_2_code
def yX1_take : MethodName := ⟨RX1, "take", "(LJesterUnion$Court;)V"⟩
abbrev cX1_holds : ByteArray := prog_3_method_3_code
def yX1_holds : MethodName := ⟨RX1, "holds", "(I)Z"⟩
abbrev cX1_isBarred : ByteArray := prog_3_method_4_code
def yX1_isBarred : MethodName := ⟨RX1, "isBarred", "(II)Z"⟩
abbrev cX1_patents : ByteArray := prog_3_method_5_code
def yX1_patents : MethodName := ⟨RX1, "patents", "()I"⟩
abbrev cX1_patentsOf : ByteArray := prog_3_method_6_code
def yX1_patentsOf : MethodName := ⟨RX1, "patentsOf", "(I)I"⟩
abbrev cX1_endJokeByJoke : ByteArray := prog_3_method_7_code
def yX1_endJokeByJoke : MethodName := ⟨RX1, "endJokeByJoke", "()I"⟩
abbrev cX1_endHourByHour : ByteArray := prog_3_method_8_code
def yX1_endHourByHour : MethodName := ⟨RX1, "endHourByHour", "()I"⟩
abbrev cX1_doesAnyEndAt : ByteArray := prog_3_method_9_code
def yX1_doesAnyEndAt : MethodName := ⟨RX1, "doesAnyEndAt", "(I)Z"⟩
abbrev cX1_laughs : ByteArray := prog_3_method_10_code
def yX1_laughs : MethodName := ⟨RX1, "laughs", "(III)I"⟩
abbrev cX1_laughsNow : ByteArray := prog_3_method_11_code
def yX1_laughsNow : MethodName := ⟨RX1, "laughsNow", "(III)I"⟩
abbrev cX1_bestJokeByJoke : ByteArray := prog_3_method_12_code
def yX1_bestJokeByJoke : MethodName := ⟨RX1, "bestJokeByJoke", "(II)I"⟩
abbrev cX1_bestByWit : ByteArray := prog_3_method_13_code
def yX1_bestByWit : MethodName := ⟨RX1, "bestByWit", "(II)I"⟩
abbrev cX1_placeFor : ByteArray := prog_3_method_14_code
def yX1_placeFor : MethodName := ⟨RX1, "placeFor", "(III)I"⟩
abbrev cX1_isAhead : ByteArray := prog_3_method_15_code
def yX1_isAhead : MethodName := ⟨RX1, "isAhead", "(IIII)Z"⟩
abbrev cX1_carryFirstOut : ByteArray := prog_3_method_16_code
def yX1_carryFirstOut : MethodName := ⟨RX1, "carryFirstOut", "()I"⟩
abbrev cX1_perform : ByteArray := prog_3_method_17_code
def yX1_perform : MethodName := ⟨RX1, "perform", "(III)I"⟩
abbrev cX1_payUnion : ByteArray := prog_3_method_18_code
def yX1_payUnion : MethodName := ⟨RX1, "payUnion", "(II)I"⟩
abbrev cX1_payFine : ByteArray := prog_3_method_19_code
def yX1_payFine : MethodName := ⟨RX1, "payFine", "(II)V"⟩
abbrev cX1_gain : ByteArray := prog_3_method_20_code
def yX1_gain : MethodName := ⟨RX1, "gain", "(II)V"⟩
def RX2 : String := "JesterUnion$Fools"
def TX2 : u_T := fun k => match k with
  | 0 => ("JesterUnion$Fools", "count", "I", false)
  | 1 => ("JesterUnion$Fools", "skill", "[I", true)
  | 2 => ("JesterUnion$Fools", "coins", "[I", true)
  | 3 => ("JesterUnion$Fools", "tears", "[I", true)
  | 4 => ("JesterUnion$Fools", "insured", "[I", true)
  | 5 => ("JesterUnion$Fools", "told", "[I", true)
  | _ => ("JesterUnion$Fools", "slips", "[I", true)
def tyX2 : Nat → FieldType := fun k => match k with
  | 0 => .int
  | 1 => .array .int
  | 2 => .array .int
  | 3 => .array .int
  | 4 => .array .int
  | 5 => .array .int
  | _ => .array .int
abbrev wsX20 : List Cond := u_ws RX2 TX2 7
theorem nmX2 : ∀ a, a < 7 → ∀ b, b < 7 → a ≠ b → (TX2 a).2.1 ≠ (TX2 b).2.1 := by decide +kernel
theorem tyX2_ok : ∀ k, k < 7 → parseFieldDescriptor (TX2 k).2.2.1 = some (tyX2 k) := by decide +kernel
abbrev cX2_init : ByteArray := prog_4_method_1_code
def yX2_init : MethodName := ⟨RX2, "<init>", "()V"⟩
abbrev cX2_take : ByteArray := prog_4_method_2_code
def yX2_take : MethodName := ⟨RX2, "take", "(LJesterUnion$Fools;)V"⟩
abbrev cX2_has : ByteArray := prog_4_method_3_code
def yX2_has : MethodName := ⟨RX2, "has", "(I)Z"⟩
abbrev cX2_add : ByteArray := prog_4_method_4_code
def yX2_add : MethodName := ⟨RX2, "add", "(I)I"⟩
abbrev cX2_atRank : ByteArray := prog_4_method_5_code
def yX2_atRank : MethodName := ⟨RX2, "atRank", "(I)I"⟩
abbrev cX2_countAhead : ByteArray := prog_4_method_6_code
def yX2_countAhead : MethodName := ⟨RX2, "countAhead", "(I)I"⟩
abbrev cX2_isAhead : ByteArray := prog_4_method_7_code
def yX2_isAhead : MethodName := ⟨RX2, "isAhead", "(II)Z"⟩
def RX3 : String := "JesterUnion$History"
def TX3 : u_T := fun k => match k with
  | 0 => ("JesterUnion$History", "count", "I", false)
  | 1 => ("JesterUnion$History", "nextSlot", "I", false)
  | _ => ("JesterUnion$History", "slots", "[LJesterUnion$Court;", true)
def tyX3 : Nat → FieldType := fun k => match k with
  | 0 => .int
  | 1 => .int
  | _ => .array (.object "JesterUnion$Court")
abbrev wsX30 : List Cond := u_ws RX3 TX3 3
theorem nmX3 : ∀ a, a < 3 → ∀ b, b < 3 → a ≠ b → (TX3 a).2.1 ≠ (TX3 b).2.1 := by decide +kernel
theorem tyX3_ok : ∀ k, k < 3 → parseFieldDescriptor (TX3 k).2.2.1 = some (tyX3 k) := by decide +kernel
abbrev cX3_init : ByteArray := prog_5_method_1_code
def yX3_init : MethodName := ⟨RX3, "<init>", "()V"⟩
abbrev cX3_keep : ByteArray := prog_5_method_2_code
def yX3_keep : MethodName := ⟨RX3, "keep", "(LJesterUnion$Court;)V"⟩
abbrev cX3_giveLatestBack : ByteArray := prog_5_method_3_code
def yX3_giveLatestBack : MethodName := ⟨RX3, "giveLatestBack", "(LJesterUnion$Court;)V"⟩
abbrev cX3_forgetAll : ByteArray := prog_5_method_4_code
def yX3_forgetAll : MethodName := ⟨RX3, "forgetAll", "()V"⟩
def RX4 : String := "JesterUnion$Jokes"
def TX4 : u_T := fun k => match k with
  | 0 => ("JesterUnion$Jokes", "count", "I", false)
  | 1 => ("JesterUnion$Jokes", "wit", "[I", true)
  | 2 => ("JesterUnion$Jokes", "owner", "[I", true)
  | 3 => ("JesterUnion$Jokes", "end", "[I", true)
  | _ => ("JesterUnion$Jokes", "told", "[I", true)
def tyX4 : Nat → FieldType := fun k => match k with
  | 0 => .int
  | 1 => .array .int
  | 2 => .array .int
  | 3 => .array .int
  | _ => .array .int
abbrev wsX40 : List Cond := u_ws RX4 TX4 5
theorem nmX4 : ∀ a, a < 5 → ∀ b, b < 5 → a ≠ b → (TX4 a).2.1 ≠ (TX4 b).2.1 := by decide +kernel
theorem tyX4_ok : ∀ k, k < 5 → parseFieldDescriptor (TX4 k).2.2.1 = some (tyX4 k) := by decide +kernel
abbrev cX4_init : ByteArray := prog_6_method_1_code
def yX4_init : MethodName := ⟨RX4, "<init>", "()V"⟩
abbrev cX4_take : ByteArray := prog_6_method_2_code
def yX4_take : MethodName := ⟨RX4, "take", "(LJesterUnion$Jokes;)V"⟩
abbrev cX4_has : ByteArray := prog_6_method_3_code
def yX4_has : MethodName := ⟨RX4, "has", "(I)Z"⟩
abbrev cX4_add : ByteArray := prog_6_method_4_code
def yX4_add : MethodName := ⟨RX4, "add", "(I)I"⟩
abbrev cX4_toldAt : ByteArray := prog_6_method_5_code
def yX4_toldAt : MethodName := ⟨RX4, "toldAt", "(II)I"⟩
abbrev cX4_addTelling : ByteArray := prog_6_method_6_code
def yX4_addTelling : MethodName := ⟨RX4, "addTelling", "(II)V"⟩
abbrev cX4_tellings : ByteArray := prog_6_method_7_code
def yX4_tellings : MethodName := ⟨RX4, "tellings", "(I)I"⟩
abbrev cX4_tellingsAt : ByteArray := prog_6_method_8_code
def yX4_tellingsAt : MethodName := ⟨RX4, "tellingsAt", "(I)I"⟩
abbrev cX4_atRank : ByteArray := prog_6_method_9_code
def yX4_atRank : MethodName := ⟨RX4, "atRank", "(I)I"⟩
abbrev cX4_countAhead : ByteArray := prog_6_method_10_code
def yX4_countAhead : MethodName := ⟨RX4, "countAhead", "(I)I"⟩
abbrev cX4_isAhead : ByteArray := prog_6_method_11_code
def yX4_isAhead : MethodName := ⟨RX4, "isAhead", "(II)Z"⟩
def RX5 : String := "JesterUnion$OrderText"
def TX5 : u_T := fun k => match k with
  | 0 => ("JesterUnion$OrderText", "signs", "Ljava/lang/StringBuilder;", true)
  | 1 => ("JesterUnion$OrderText", "count", "I", false)
  | 2 => ("JesterUnion$OrderText", "place", "I", false)
  | 3 => ("JesterUnion$OrderText", "numbersRead", "I", false)
  | 4 => ("JesterUnion$OrderText", "letters", "[C", true)
  | _ => ("JesterUnion$OrderText", "numbers", "[I", true)
def tyX5 : Nat → FieldType := fun k => match k with
  | 0 => .object "java/lang/StringBuilder"
  | 1 => .int
  | 2 => .int
  | 3 => .int
  | 4 => .array .char
  | _ => .array .int
abbrev wsX50 : List Cond := u_ws RX5 TX5 6
theorem nmX5 : ∀ a, a < 6 → ∀ b, b < 6 → a ≠ b → (TX5 a).2.1 ≠ (TX5 b).2.1 := by decide +kernel
theorem tyX5_ok : ∀ k, k < 6 → parseFieldDescriptor (TX5 k).2.2.1 = some (tyX5 k) := by decide +kernel
abbrev cX5_init : ByteArray := prog_7_method_1_code
def yX5_init : MethodName := ⟨RX5, "<init>", "()V"⟩
abbrev cX5_letter : ByteArray := prog_7_method_2_code
def yX5_letter : MethodName := ⟨RX5, "letter", "(I)C"⟩
abbrev cX5_number : ByteArray := prog_7_method_3_code
def yX5_number : MethodName := ⟨RX5, "number", "(II)I"⟩
abbrev cX5_read : ByteArray := prog_7_method_4_code
def yX5_read : MethodName := ⟨RX5, "read", "()Z"⟩
abbrev cX5_readOrder : ByteArray := prog_7_method_5_code
def yX5_readOrder : MethodName := ⟨RX5, "readOrder", "()Z"⟩
abbrev cX5_shapeOf : ByteArray := prog_7_method_6_code
def yX5_shapeOf : MethodName := ⟨RX5, "shapeOf", "(C)Ljava/lang/String;"⟩
abbrev cX5_readPart : ByteArray := prog_7_method_7_code
def yX5_readPart : MethodName := ⟨RX5, "readPart", "(C)Z"⟩
abbrev cX5_readNumber : ByteArray := prog_7_method_8_code
def yX5_readNumber : MethodName := ⟨RX5, "readNumber", "(I)Z"⟩
abbrev cX5_isDigitAhead : ByteArray := prog_7_method_9_code
def yX5_isDigitAhead : MethodName := ⟨RX5, "isDigitAhead", "()Z"⟩
abbrev cX5_readPlusOrMinus : ByteArray := prog_7_method_10_code
def yX5_readPlusOrMinus : MethodName := ⟨RX5, "readPlusOrMinus", "()Z"⟩
abbrev cX5_readSign : ByteArray := prog_7_method_11_code
def yX5_readSign : MethodName := ⟨RX5, "readSign", "(C)Z"⟩
abbrev cX5_keepNumber : ByteArray := prog_7_method_12_code
def yX5_keepNumber : MethodName := ⟨RX5, "keepNumber", "(I)V"⟩
def RX6 : String := "JesterUnion"
def TX6 : u_T := fun k => match k with
  | 0 => ("JesterUnion", "now", "LJesterUnion$Court;", true)
  | 1 => ("JesterUnion", "before", "LJesterUnion$Court;", true)
  | 2 => ("JesterUnion", "trial", "LJesterUnion$Court;", true)
  | 3 => ("JesterUnion", "snapshot", "LJesterUnion$Court;", true)
  | 4 => ("JesterUnion", "history", "LJesterUnion$History;", true)
  | 5 => ("JesterUnion", "text", "LJesterUnion$OrderText;", true)
  | 6 => ("JesterUnion", "line", "Ljava/lang/StringBuilder;", true)
  | 7 => ("JesterUnion", "isSaved", "Z", false)
  | 8 => ("JesterUnion", "latestReason", "I", false)
  | _ => ("JesterUnion", "latestDetail", "I", false)
def tyX6 : Nat → FieldType := fun k => match k with
  | 0 => .object "JesterUnion$Court"
  | 1 => .object "JesterUnion$Court"
  | 2 => .object "JesterUnion$Court"
  | 3 => .object "JesterUnion$Court"
  | 4 => .object "JesterUnion$History"
  | 5 => .object "JesterUnion$OrderText"
  | 6 => .object "java/lang/StringBuilder"
  | 7 => .boolean
  | 8 => .int
  | _ => .int
abbrev wsX60 : List Cond := u_ws RX6 TX6 10
theorem nmX6 : ∀ a, a < 10 → ∀ b, b < 10 → a ≠ b → (TX6 a).2.1 ≠ (TX6 b).2.1 := by decide +kernel
theorem tyX6_ok : ∀ k, k < 10 → parseFieldDescriptor (TX6 k).2.2.1 = some (tyX6 k) := by decide +kernel
abbrev cX6_init : ByteArray := prog_1_method_1_code
def yX6_init : MethodName := ⟨RX6, "<init>", "()V"⟩
abbrev cX6_fool : ByteArray := prog_1_method_2_code
def yX6_fool : MethodName := ⟨RX6, "fool", "(I)I"⟩
abbrev cX6_joke : ByteArray := prog_1_method_3_code
def yX6_joke : MethodName := ⟨RX6, "joke", "(I)I"⟩
abbrev cX6_patent : ByteArray := prog_1_method_4_code
def yX6_patent : MethodName := ⟨RX6, "patent", "(III)I"⟩
abbrev cX6_insure : ByteArray := prog_1_method_5_code
def yX6_insure : MethodName := ⟨RX6, "insure", "(I)I"⟩
abbrev cX6_audit : ByteArray := prog_1_method_6_code
def yX6_audit : MethodName := ⟨RX6, "audit", "(I)I"⟩
abbrev cX6_foolOf : ByteArray := prog_1_method_7_code
def yX6_foolOf : MethodName := ⟨RX6, "foolOf", "(II)I"⟩
abbrev cX6_jokeOf : ByteArray := prog_1_method_8_code
def yX6_jokeOf : MethodName := ⟨RX6, "jokeOf", "(II)I"⟩
abbrev cX6_exempt : ByteArray := prog_1_method_9_code
def yX6_exempt : MethodName := ⟨RX6, "exempt", "(II)I"⟩
abbrev cX6_throneOf : ByteArray := prog_1_method_10_code
def yX6_throneOf : MethodName := ⟨RX6, "throneOf", "(II)I"⟩
abbrev cX6_told : ByteArray := prog_1_method_11_code
def yX6_told : MethodName := ⟨RX6, "told", "(II)I"⟩
abbrev cX6_book : ByteArray := prog_1_method_12_code
def yX6_book : MethodName := ⟨RX6, "book", "(IIII)I"⟩
abbrev cX6_next : ByteArray := prog_1_method_13_code
def yX6_next : MethodName := ⟨RX6, "next", "()I"⟩
abbrev cX6_pass : ByteArray := prog_1_method_14_code
def yX6_pass : MethodName := ⟨RX6, "pass", "(I)I"⟩
abbrev cX6_booking : ByteArray := prog_1_method_15_code
def yX6_booking : MethodName := ⟨RX6, "booking", "(II)I"⟩
abbrev cX6_would : ByteArray := prog_1_method_16_code
def yX6_would : MethodName := ⟨RX6, "would", "(III)I"⟩
abbrev cX6_best : ByteArray := prog_1_method_17_code
def yX6_best : MethodName := ⟨RX6, "best", "(II)I"⟩
abbrev cX6_bestAgain : ByteArray := prog_1_method_18_code
def yX6_bestAgain : MethodName := ⟨RX6, "bestAgain", "(II)I"⟩
abbrev cX6_ends : ByteArray := prog_1_method_19_code
def yX6_ends : MethodName := ⟨RX6, "ends", "()I"⟩
abbrev cX6_endsAgain : ByteArray := prog_1_method_20_code
def yX6_endsAgain : MethodName := ⟨RX6, "endsAgain", "()I"⟩
abbrev cX6_forecast : ByteArray := prog_1_method_21_code
def yX6_forecast : MethodName := ⟨RX6, "forecast", "()I"⟩
abbrev cX6_ranked : ByteArray := prog_1_method_22_code
def yX6_ranked : MethodName := ⟨RX6, "ranked", "(I)I"⟩
abbrev cX6_stalest : ByteArray := prog_1_method_23_code
def yX6_stalest : MethodName := ⟨RX6, "stalest", "(I)I"⟩
abbrev cX6_append : ByteArray := prog_1_method_24_code
def yX6_append : MethodName := ⟨RX6, "append", "(I)I"⟩
abbrev cX6_run : ByteArray := prog_1_method_25_code
def yX6_run : MethodName := ⟨RX6, "run", "()I"⟩
abbrev cX6_tell : ByteArray := prog_1_method_26_code
def yX6_tell : MethodName := ⟨RX6, "tell", "(I)I"⟩
abbrev cX6_tellBookings : ByteArray := prog_1_method_27_code
def yX6_tellBookings : MethodName := ⟨RX6, "tellBookings", "()I"⟩
abbrev cX6_character : ByteArray := prog_1_method_28_code
def yX6_character : MethodName := ⟨RX6, "character", "(I)I"⟩
abbrev cX6_reason : ByteArray := prog_1_method_29_code
def yX6_reason : MethodName := ⟨RX6, "reason", "(Z)I"⟩
abbrev cX6_account : ByteArray := prog_1_method_30_code
def yX6_account : MethodName := ⟨RX6, "account", "(I)I"⟩
abbrev cX6_isBalanced : ByteArray := prog_1_method_31_code
def yX6_isBalanced : MethodName := ⟨RX6, "isBalanced", "()I"⟩
abbrev cX6_meanWit : ByteArray := prog_1_method_32_code
def yX6_meanWit : MethodName := ⟨RX6, "meanWit", "()D"⟩
abbrev cX6_slipShare : ByteArray := prog_1_method_33_code
def yX6_slipShare : MethodName := ⟨RX6, "slipShare", "()F"⟩
abbrev cX6_undo : ByteArray := prog_1_method_34_code
def yX6_undo : MethodName := ⟨RX6, "undo", "()I"⟩
abbrev cX6_save : ByteArray := prog_1_method_35_code
def yX6_save : MethodName := ⟨RX6, "save", "()I"⟩
abbrev cX6_restore : ByteArray := prog_1_method_36_code
def yX6_restore : MethodName := ⟨RX6, "restore", "()I"⟩
abbrev cX6_admit : ByteArray := prog_1_method_37_code
def yX6_admit : MethodName := ⟨RX6, "admit", "(I)I"⟩
abbrev cX6_invent : ByteArray := prog_1_method_38_code
def yX6_invent : MethodName := ⟨RX6, "invent", "(I)I"⟩
abbrev cX6_grant : ByteArray := prog_1_method_39_code
def yX6_grant : MethodName := ⟨RX6, "grant", "(III)I"⟩
abbrev cX6_cover : ByteArray := prog_1_method_40_code
def yX6_cover : MethodName := ⟨RX6, "cover", "(I)I"⟩
abbrev cX6_collect : ByteArray := prog_1_method_41_code
def yX6_collect : MethodName := ⟨RX6, "collect", "(I)I"⟩
abbrev cX6_setExempt : ByteArray := prog_1_method_42_code
def yX6_setExempt : MethodName := ⟨RX6, "setExempt", "(II)I"⟩
abbrev cX6_reserve : ByteArray := prog_1_method_43_code
def yX6_reserve : MethodName := ⟨RX6, "reserve", "(IIII)I"⟩
abbrev cX6_carryNextOut : ByteArray := prog_1_method_44_code
def yX6_carryNextOut : MethodName := ⟨RX6, "carryNextOut", "()I"⟩
abbrev cX6_elapse : ByteArray := prog_1_method_45_code
def yX6_elapse : MethodName := ⟨RX6, "elapse", "(I)I"⟩
abbrev cX6_carryOrderOut : ByteArray := prog_1_method_46_code
def yX6_carryOrderOut : MethodName := ⟨RX6, "carryOrderOut", "(I)I"⟩
abbrev cX6_remember : ByteArray := prog_1_method_47_code
def yX6_remember : MethodName := ⟨RX6, "remember", "(I)I"⟩
abbrev cX6_refuse : ByteArray := prog_1_method_48_code
def yX6_refuse : MethodName := ⟨RX6, "refuse", "(II)I"⟩
abbrev cX6_areCoinsAccountedFor : ByteArray := prog_1_method_49_code
def yX6_areCoinsAccountedFor : MethodName := ⟨RX6, "areCoinsAccountedFor", "()Z"⟩
abbrev cX6_areTellingsAccountedFor : ByteArray := prog_1_method_50_code
def yX6_areTellingsAccountedFor : MethodName := ⟨RX6, "areTellingsAccountedFor", "()Z"⟩
abbrev cX6_areBestsTheSame : ByteArray := prog_1_method_51_code
def yX6_areBestsTheSame : MethodName := ⟨RX6, "areBestsTheSame", "()Z"⟩
abbrev cX6_write : ByteArray := prog_1_method_52_code
def yX6_write : MethodName := ⟨RX6, "write", "(CI)V"⟩
abbrev cX6_isThrone : ByteArray := prog_1_method_53_code
def yX6_isThrone : MethodName := ⟨RX6, "isThrone", "(I)Z"⟩
abbrev cX6_sum : ByteArray := prog_1_method_54_code
def yX6_sum : MethodName := ⟨RX6, "sum", "([I)I"⟩
abbrev cX6_copy : ByteArray := prog_1_method_55_code
def yX6_copy : MethodName := ⟨RX6, "copy", "([I[I)V"⟩
def RX7 : String := "JesterUnionModel"
def TX7 : u_T := fun k => match k with
  | 0 => ("JesterUnionModel", "fails", "I", false)
  | 1 => ("JesterUnionModel", "changes", "I", false)
  | 2 => ("JesterUnionModel", "why", "I", false)
  | 3 => ("JesterUnionModel", "detail", "I", false)
  | 4 => ("JesterUnionModel", "isSaved", "Z", false)
  | 5 => ("JesterUnionModel", "v", "[I", true)
  | 6 => ("JesterUnionModel", "before", "[I", true)
  | 7 => ("JesterUnionModel", "saved", "[I", true)
  | 8 => ("JesterUnionModel", "kept", "[I", true)
  | 9 => ("JesterUnionModel", "past", "[I", true)
  | 10 => ("JesterUnionModel", "text", "[I", true)
  | 11 => ("JesterUnionModel", "line", "[I", true)
  | 12 => ("JesterUnionModel", "textN", "I", false)
  | 13 => ("JesterUnionModel", "here", "I", false)
  | 14 => ("JesterUnionModel", "end", "I", false)
  | 15 => ("JesterUnionModel", "lineN", "I", false)
  | 16 => ("JesterUnionModel", "isWrong", "Z", false)
  | _ => ("JesterUnionModel", "isDoing", "Z", false)
def tyX7 : Nat → FieldType := fun k => match k with
  | 0 => .int
  | 1 => .int
  | 2 => .int
  | 3 => .int
  | 4 => .boolean
  | 5 => .array .int
  | 6 => .array .int
  | 7 => .array .int
  | 8 => .array .int
  | 9 => .array .int
  | 10 => .array .int
  | 11 => .array .int
  | 12 => .int
  | 13 => .int
  | 14 => .int
  | 15 => .int
  | 16 => .boolean
  | _ => .boolean
abbrev wsX70 : List Cond := u_ws RX7 TX7 18
theorem nmX7 : ∀ a, a < 18 → ∀ b, b < 18 → a ≠ b → (TX7 a).2.1 ≠ (TX7 b).2.1 := by decide +kernel
theorem tyX7_ok : ∀ k, k < 18 → parseFieldDescriptor (TX7 k).2.2.1 = some (tyX7 k) := by decide +kernel
abbrev cX7_init : ByteArray := prog_9_method_1_code
def yX7_init : MethodName := ⟨RX7, "<init>", "()V"⟩
abbrev cX7_fail : ByteArray := prog_9_method_2_code
def yX7_fail : MethodName := ⟨RX7, "fail", "(I)I"⟩
abbrev cX7_refuses : ByteArray := prog_9_method_3_code
def yX7_refuses : MethodName := ⟨RX7, "refuses", "(II)I"⟩
abbrev cX7_isIn : ByteArray := prog_9_method_4_code
def yX7_isIn : MethodName := ⟨RX7, "isIn", "(III)Z"⟩
abbrev cX7_lays : ByteArray := prog_9_method_5_code
def yX7_lays : MethodName := ⟨RX7, "lays", "([I[I)V"⟩
abbrev cX7_begins : ByteArray := prog_9_method_6_code
def yX7_begins : MethodName := ⟨RX7, "begins", "()V"⟩
abbrev cX7_closes : ByteArray := prog_9_method_7_code
def yX7_closes : MethodName := ⟨RX7, "closes", "(I)I"⟩
abbrev cX7_at : ByteArray := prog_9_method_8_code
def yX7_at : MethodName := ⟨RX7, "at", "(II)I"⟩
abbrev cX7_in : ByteArray := prog_9_method_9_code
def yX7_in : MethodName := ⟨RX7, "in", "(II)I"⟩
abbrev cX7_of : ByteArray := prog_9_method_10_code
def yX7_of : MethodName := ⟨RX7, "of", "(II)I"⟩
abbrev cX7_booked : ByteArray := prog_9_method_11_code
def yX7_booked : MethodName := ⟨RX7, "booked", "(II)I"⟩
abbrev cX7_isFool : ByteArray := prog_9_method_12_code
def yX7_isFool : MethodName := ⟨RX7, "isFool", "(I)Z"⟩
abbrev cX7_isJoke : ByteArray := prog_9_method_13_code
def yX7_isJoke : MethodName := ⟨RX7, "isJoke", "(I)Z"⟩
abbrev cX7_isThrone : ByteArray := prog_9_method_14_code
def yX7_isThrone : MethodName := ⟨RX7, "isThrone", "(I)Z"⟩
abbrev cX7_owner : ByteArray := prog_9_method_15_code
def yX7_owner : MethodName := ⟨RX7, "owner", "(I)I"⟩
abbrev cX7_isBarred : ByteArray := prog_9_method_16_code
def yX7_isBarred : MethodName := ⟨RX7, "isBarred", "(II)Z"⟩
abbrev cX7_earns : ByteArray := prog_9_method_17_code
def yX7_earns : MethodName := ⟨RX7, "earns", "(II)V"⟩
abbrev cX7_pays : ByteArray := prog_9_method_18_code
def yX7_pays : MethodName := ⟨RX7, "pays", "(II)I"⟩
abbrev cX7_comes : ByteArray := prog_9_method_19_code
def yX7_comes : MethodName := ⟨RX7, "comes", "(I)I"⟩
abbrev cX7_fool : ByteArray := prog_9_method_20_code
def yX7_fool : MethodName := ⟨RX7, "fool", "(I)I"⟩
abbrev cX7_jokes : ByteArray := prog_9_method_21_code
def yX7_jokes : MethodName := ⟨RX7, "jokes", "(I)I"⟩
abbrev cX7_joke : ByteArray := prog_9_method_22_code
def yX7_joke : MethodName := ⟨RX7, "joke", "(I)I"⟩
abbrev cX7_patents : ByteArray := prog_9_method_23_code
def yX7_patents : MethodName := ⟨RX7, "patents", "(III)I"⟩
abbrev cX7_patent : ByteArray := prog_9_method_24_code
def yX7_patent : MethodName := ⟨RX7, "patent", "(III)I"⟩
abbrev cX7_insures : ByteArray := prog_9_method_25_code
def yX7_insures : MethodName := ⟨RX7, "insures", "(I)I"⟩
abbrev cX7_insure : ByteArray := prog_9_method_26_code
def yX7_insure : MethodName := ⟨RX7, "insure", "(I)I"⟩
abbrev cX7_audits : ByteArray := prog_9_method_27_code
def yX7_audits : MethodName := ⟨RX7, "audits", "(I)I"⟩
abbrev cX7_audit : ByteArray := prog_9_method_28_code
def yX7_audit : MethodName := ⟨RX7, "audit", "(I)I"⟩
abbrev cX7_bookings : ByteArray := prog_9_method_29_code
def yX7_bookings : MethodName := ⟨RX7, "bookings", "(II)I"⟩
abbrev cX7_patentsOf : ByteArray := prog_9_method_30_code
def yX7_patentsOf : MethodName := ⟨RX7, "patentsOf", "(I)I"⟩
abbrev cX7_foolOf : ByteArray := prog_9_method_31_code
def yX7_foolOf : MethodName := ⟨RX7, "foolOf", "(II)I"⟩
abbrev cX7_tellings : ByteArray := prog_9_method_32_code
def yX7_tellings : MethodName := ⟨RX7, "tellings", "(I)I"⟩
abbrev cX7_jokeOf : ByteArray := prog_9_method_33_code
def yX7_jokeOf : MethodName := ⟨RX7, "jokeOf", "(II)I"⟩
abbrev cX7_exempts : ByteArray := prog_9_method_34_code
def yX7_exempts : MethodName := ⟨RX7, "exempts", "(II)I"⟩
abbrev cX7_exempt : ByteArray := prog_9_method_35_code
def yX7_exempt : MethodName := ⟨RX7, "exempt", "(II)I"⟩
abbrev cX7_throneOf : ByteArray := prog_9_method_36_code
def yX7_throneOf : MethodName := ⟨RX7, "throneOf", "(II)I"⟩
abbrev cX7_told : ByteArray := prog_9_method_37_code
def yX7_told : MethodName := ⟨RX7, "told", "(II)I"⟩
abbrev cX7_isAhead : ByteArray := prog_9_method_38_code
def yX7_isAhead : MethodName := ⟨RX7, "isAhead", "(IIII)Z"⟩
abbrev cX7_jokeFor : ByteArray := prog_9_method_39_code
def yX7_jokeFor : MethodName := ⟨RX7, "jokeFor", "(II)I"⟩
abbrev cX7_books : ByteArray := prog_9_method_40_code
def yX7_books : MethodName := ⟨RX7, "books", "(IIII)I"⟩
abbrev cX7_book : ByteArray := prog_9_method_41_code
def yX7_book : MethodName := ⟨RX7, "book", "(IIII)I"⟩
abbrev cX7_laughs : ByteArray := prog_9_method_42_code
def yX7_laughs : MethodName := ⟨RX7, "laughs", "(III)I"⟩
abbrev cX7_slips : ByteArray := prog_9_method_43_code
def yX7_slips : MethodName := ⟨RX7, "slips", "(I)V"⟩
abbrev cX7_tells : ByteArray := prog_9_method_44_code
def yX7_tells : MethodName := ⟨RX7, "tells", "(III)I"⟩
abbrev cX7_carries : ByteArray := prog_9_method_45_code
def yX7_carries : MethodName := ⟨RX7, "carries", "()I"⟩
abbrev cX7_next : ByteArray := prog_9_method_46_code
def yX7_next : MethodName := ⟨RX7, "next", "()I"⟩
abbrev cX7_passes : ByteArray := prog_9_method_47_code
def yX7_passes : MethodName := ⟨RX7, "passes", "(I)I"⟩
abbrev cX7_pass : ByteArray := prog_9_method_48_code
def yX7_pass : MethodName := ⟨RX7, "pass", "(I)I"⟩
abbrev cX7_booking : ByteArray := prog_9_method_49_code
def yX7_booking : MethodName := ⟨RX7, "booking", "(II)I"⟩
abbrev cX7_wouldGet : ByteArray := prog_9_method_50_code
def yX7_wouldGet : MethodName := ⟨RX7, "wouldGet", "(III)I"⟩
abbrev cX7_would : ByteArray := prog_9_method_51_code
def yX7_would : MethodName := ⟨RX7, "would", "(III)I"⟩
abbrev cX7_best : ByteArray := prog_9_method_52_code
def yX7_best : MethodName := ⟨RX7, "best", "(II)I"⟩
abbrev cX7_bestAgain : ByteArray := prog_9_method_53_code
def yX7_bestAgain : MethodName := ⟨RX7, "bestAgain", "(II)I"⟩
abbrev cX7_ends : ByteArray := prog_9_method_54_code
def yX7_ends : MethodName := ⟨RX7, "ends", "()I"⟩
abbrev cX7_endsAgain : ByteArray := prog_9_method_55_code
def yX7_endsAgain : MethodName := ⟨RX7, "endsAgain", "()I"⟩
abbrev cX7_all : ByteArray := prog_9_method_56_code
def yX7_all : MethodName := ⟨RX7, "all", "(I)I"⟩
abbrev cX7_forecast : ByteArray := prog_9_method_57_code
def yX7_forecast : MethodName := ⟨RX7, "forecast", "()I"⟩
abbrev cX7_ranked : ByteArray := prog_9_method_58_code
def yX7_ranked : MethodName := ⟨RX7, "ranked", "(I)I"⟩
abbrev cX7_stalest : ByteArray := prog_9_method_59_code
def yX7_stalest : MethodName := ⟨RX7, "stalest", "(I)I"⟩
abbrev cX7_writes : ByteArray := prog_9_method_60_code
def yX7_writes : MethodName := ⟨RX7, "writes", "(I)V"⟩
abbrev cX7_writesNumber : ByteArray := prog_9_method_61_code
def yX7_writesNumber : MethodName := ⟨RX7, "writesNumber", "(I)V"⟩
abbrev cX7_append : ByteArray := prog_9_method_62_code
def yX7_append : MethodName := ⟨RX7, "append", "(I)I"⟩
abbrev cX7_sign : ByteArray := prog_9_method_63_code
def yX7_sign : MethodName := ⟨RX7, "sign", "()I"⟩
abbrev cX7_mark : ByteArray := prog_9_method_64_code
def yX7_mark : MethodName := ⟨RX7, "mark", "(I)V"⟩
abbrev cX7_digits : ByteArray := prog_9_method_65_code
def yX7_digits : MethodName := ⟨RX7, "digits", "(I)I"⟩
abbrev cX7_behind : ByteArray := prog_9_method_66_code
def yX7_behind : MethodName := ⟨RX7, "behind", "(II)I"⟩
abbrev cX7_plus : ByteArray := prog_9_method_67_code
def yX7_plus : MethodName := ⟨RX7, "plus", "()I"⟩
abbrev cX7_does : ByteArray := prog_9_method_68_code
def yX7_does : MethodName := ⟨RX7, "does", "(IIIII)I"⟩
abbrev cX7_isKnown : ByteArray := prog_9_method_69_code
def yX7_isKnown : MethodName := ⟨RX7, "isKnown", "(I)Z"⟩
abbrev cX7_order : ByteArray := prog_9_method_70_code
def yX7_order : MethodName := ⟨RX7, "order", "()V"⟩
abbrev cX7_orders : ByteArray := prog_9_method_71_code
def yX7_orders : MethodName := ⟨RX7, "orders", "()I"⟩
abbrev cX7_run : ByteArray := prog_9_method_72_code
def yX7_run : MethodName := ⟨RX7, "run", "()I"⟩
abbrev cX7_tell : ByteArray := prog_9_method_73_code
def yX7_tell : MethodName := ⟨RX7, "tell", "(I)I"⟩
abbrev cX7_tellBookings : ByteArray := prog_9_method_74_code
def yX7_tellBookings : MethodName := ⟨RX7, "tellBookings", "()I"⟩
abbrev cX7_character : ByteArray := prog_9_method_75_code
def yX7_character : MethodName := ⟨RX7, "character", "(I)I"⟩
abbrev cX7_reason : ByteArray := prog_9_method_76_code
def yX7_reason : MethodName := ⟨RX7, "reason", "(Z)I"⟩
abbrev cX7_account : ByteArray := prog_9_method_77_code
def yX7_account : MethodName := ⟨RX7, "account", "(I)I"⟩
abbrev cX7_isBalanced : ByteArray := prog_9_method_78_code
def yX7_isBalanced : MethodName := ⟨RX7, "isBalanced", "()I"⟩
abbrev cX7_meanWit : ByteArray := prog_9_method_79_code
def yX7_meanWit : MethodName := ⟨RX7, "meanWit", "()D"⟩
abbrev cX7_slipShare : ByteArray := prog_9_method_80_code
def yX7_slipShare : MethodName := ⟨RX7, "slipShare", "()F"⟩
abbrev cX7_undo : ByteArray := prog_9_method_81_code
def yX7_undo : MethodName := ⟨RX7, "undo", "()I"⟩
abbrev cX7_save : ByteArray := prog_9_method_82_code
def yX7_save : MethodName := ⟨RX7, "save", "()I"⟩
abbrev cX7_restore : ByteArray := prog_9_method_83_code
def yX7_restore : MethodName := ⟨RX7, "restore", "()I"⟩
def RJ5 : String := "java/lang/AbstractStringBuilder"
def TJ5 : u_T := fun k => match k with
  | _ => ("", "", "", false)
def tyJ5 : Nat → FieldType := fun k => match k with
  | _ => .int
abbrev wsJ50 : List Cond := u_ws RJ5 TJ5 0
theorem nmJ5 : ∀ a, a < 0 → ∀ b, b < 0 → a ≠ b → (TJ5 a).2.1 ≠ (TJ5 b).2.1 := by decide +kernel
theorem tyJ5_ok : ∀ k, k < 0 → parseFieldDescriptor (TJ5 k).2.2.1 = some (tyJ5 k) := by decide +kernel
abbrev cJ5_init_d00df : ByteArray := prog_10_method_2_code
def yJ5_init_d00df : MethodName := ⟨RJ5, "<init>", "(I)V"⟩
abbrev cJ5_length_8abf5 : ByteArray := prog_10_method_6_code
def yJ5_length_8abf5 : MethodName := ⟨RJ5, "length", "()I"⟩
abbrev cJ5_ensureCapacityInternal_d00df : ByteArray := prog_10_method_9_code
def yJ5_ensureCapacityInternal_d00df : MethodName := ⟨RJ5, "ensureCapacityInternal", "(I)V"⟩
abbrev cJ5_newCapacity_0f7a4 : ByteArray := prog_10_method_10_code
def yJ5_newCapacity_0f7a4 : MethodName := ⟨RJ5, "newCapacity", "(I)I"⟩
abbrev cJ5_inflate_da8c8 : ByteArray := prog_10_method_11_code
def yJ5_inflate_da8c8 : MethodName := ⟨RJ5, "inflate", "()V"⟩
abbrev cJ5_setLength_d00df : ByteArray := prog_10_method_13_code
def yJ5_setLength_d00df : MethodName := ⟨RJ5, "setLength", "(I)V"⟩
abbrev cJ5_charAt_5068e : ByteArray := prog_10_method_14_code
def yJ5_charAt_5068e : MethodName := ⟨RJ5, "charAt", "(I)C"⟩
abbrev cJ5_append_3fe6f : ByteArray := prog_10_method_31_code
def yJ5_append_3fe6f : MethodName := ⟨RJ5, "append", "(C)Ljava/lang/AbstractStringBuilder;"⟩
abbrev cJ5_append_c97b9 : ByteArray := prog_10_method_32_code
def yJ5_append_c97b9 : MethodName := ⟨RJ5, "append", "(I)Ljava/lang/AbstractStringBuilder;"⟩
abbrev cJ5_isLatin1_aae02 : ByteArray := prog_10_method_68_code
def yJ5_isLatin1_aae02 : MethodName := ⟨RJ5, "isLatin1", "()Z"⟩
def RJx8e188 : String := "java/lang/Cloneable"
def TJx8e188 : u_T := fun k => match k with
  | _ => ("", "", "", false)
def tyJx8e188 : Nat → FieldType := fun k => match k with
  | _ => .int
abbrev wsJx8e1880 : List Cond := u_ws RJx8e188 TJx8e188 0
theorem nmJx8e188 : ∀ a, a < 0 → ∀ b, b < 0 → a ≠ b → (TJx8e188 a).2.1 ≠ (TJx8e188 b).2.1 := by decide +kernel
theorem tyJx8e188_ok : ∀ k, k < 0 → parseFieldDescriptor (TJx8e188 k).2.2.1 = some (tyJx8e188 k) := by decide +kernel
def RJ6 : String := "java/lang/Integer"
def TJ6 : u_T := fun k => match k with
  | _ => ("", "", "", false)
def tyJ6 : Nat → FieldType := fun k => match k with
  | _ => .int
abbrev wsJ60 : List Cond := u_ws RJ6 TJ6 0
theorem nmJ6 : ∀ a, a < 0 → ∀ b, b < 0 → a ≠ b → (TJ6 a).2.1 ≠ (TJ6 b).2.1 := by decide +kernel
theorem tyJ6_ok : ∀ k, k < 0 → parseFieldDescriptor (TJ6 k).2.2.1 = some (tyJ6 k) := by decide +kernel
abbrev cJ6_getChars_ba4f3 : ByteArray := prog_12_method_12_code
def yJ6_getChars_ba4f3 : MethodName := ⟨RJ6, "getChars", "(II[B)I"⟩
abbrev cJ6_stringSize_0f7a4 : ByteArray := prog_12_method_13_code
def yJ6_stringSize_0f7a4 : MethodName := ⟨RJ6, "stringSize", "(I)I"⟩
def RJ9 : String := "java/lang/Math"
def TJ9 : u_T := fun k => match k with
  | _ => ("", "", "", false)
def tyJ9 : Nat → FieldType := fun k => match k with
  | _ => .int
abbrev wsJ90 : List Cond := u_ws RJ9 TJ9 0
theorem nmJ9 : ∀ a, a < 0 → ∀ b, b < 0 → a ≠ b → (TJ9 a).2.1 ≠ (TJ9 b).2.1 := by decide +kernel
theorem tyJ9_ok : ∀ k, k < 0 → parseFieldDescriptor (TJ9 k).2.2.1 = some (tyJ9 k) := by decide +kernel
abbrev cJ9_max_7cf53 : ByteArray := prog_13_method_65_code
def yJ9_max_7cf53 : MethodName := ⟨RJ9, "max", "(II)I"⟩
abbrev cJ9_min_7cf53 : ByteArray := prog_13_method_69_code
def yJ9_min_7cf53 : MethodName := ⟨RJ9, "min", "(II)I"⟩
def RJ0 : String := "java/lang/String"
def TJ0 : u_T := fun k => match k with
  | _ => ("", "", "", false)
def tyJ0 : Nat → FieldType := fun k => match k with
  | _ => .int
abbrev wsJ00 : List Cond := u_ws RJ0 TJ0 0
theorem nmJ0 : ∀ a, a < 0 → ∀ b, b < 0 → a ≠ b → (TJ0 a).2.1 ≠ (TJ0 b).2.1 := by decide +kernel
theorem tyJ0_ok : ∀ k, k < 0 → parseFieldDescriptor (TJ0 k).2.2.1 = some (tyJ0 k) := by decide +kernel
abbrev cJ0_length_8abf5 : ByteArray := prog_14_method_54_code
def yJ0_length_8abf5 : MethodName := ⟨RJ0, "length", "()I"⟩
abbrev cJ0_isEmpty_aae02 : ByteArray := prog_14_method_55_code
def yJ0_isEmpty_aae02 : MethodName := ⟨RJ0, "isEmpty", "()Z"⟩
abbrev cJ0_charAt_5068e : ByteArray := prog_14_method_56_code
def yJ0_charAt_5068e : MethodName := ⟨RJ0, "charAt", "(I)C"⟩
abbrev cJ0_coder_7d493 : ByteArray := prog_14_method_152_code
def yJ0_coder_7d493 : MethodName := ⟨RJ0, "coder", "()B"⟩
abbrev cJ0_isLatin1_aae02 : ByteArray := prog_14_method_154_code
def yJ0_isLatin1_aae02 : MethodName := ⟨RJ0, "isLatin1", "()Z"⟩
abbrev cJ0_checkIndex_df160 : ByteArray := prog_14_method_155_code
def yJ0_checkIndex_df160 : MethodName := ⟨RJ0, "checkIndex", "(II)V"⟩
abbrev cJ0_checkBoundsOffCount_cabcc : ByteArray := prog_14_method_157_code
def yJ0_checkBoundsOffCount_cabcc : MethodName := ⟨RJ0, "checkBoundsOffCount", "(III)I"⟩
abbrev cJ0_checkBoundsBeginEnd_23922 : ByteArray := prog_14_method_158_code
def yJ0_checkBoundsBeginEnd_23922 : MethodName := ⟨RJ0, "checkBoundsBeginEnd", "(III)V"⟩
def RJ4 : String := "java/lang/StringBuilder"
def TJ4 : u_T := fun k => match k with
  | 0 => ("java/lang/AbstractStringBuilder", "value", "[B", false)
  | 1 => ("java/lang/AbstractStringBuilder", "coder", "B", false)
  | 2 => ("java/lang/AbstractStringBuilder", "maybeLatin1", "Z", false)
  | _ => ("java/lang/AbstractStringBuilder", "count", "I", false)
def tyJ4 : Nat → FieldType := fun k => match k with
  | 0 => .array .byte
  | 1 => .byte
  | 2 => .boolean
  | _ => .int
abbrev wsJ40 : List Cond := u_ws RJ4 TJ4 4
theorem nmJ4 : ∀ a, a < 4 → ∀ b, b < 4 → a ≠ b → (TJ4 a).2.1 ≠ (TJ4 b).2.1 := by decide +kernel
theorem tyJ4_ok : ∀ k, k < 4 → parseFieldDescriptor (TJ4 k).2.2.1 = some (tyJ4 k) := by decide +kernel
abbrev cJ4_init_da8c8 : ByteArray := prog_15_method_1_code
def yJ4_init_da8c8 : MethodName := ⟨RJ4, "<init>", "()V"⟩
abbrev cJ4_append_cf468 : ByteArray := prog_15_method_14_code
def yJ4_append_cf468 : MethodName := ⟨RJ4, "append", "(C)Ljava/lang/StringBuilder;"⟩
abbrev cJ4_append_bf812 : ByteArray := prog_15_method_15_code
def yJ4_append_bf812 : MethodName := ⟨RJ4, "append", "(I)Ljava/lang/StringBuilder;"⟩
abbrev cJ4_charAt_5068e : ByteArray := prog_15_method_88_code
def yJ4_charAt_5068e : MethodName := ⟨RJ4, "charAt", "(I)C"⟩
abbrev cJ4_setLength_d00df : ByteArray := prog_15_method_89_code
def yJ4_setLength_d00df : MethodName := ⟨RJ4, "setLength", "(I)V"⟩
abbrev cJ4_length_8abf5 : ByteArray := prog_15_method_93_code
def yJ4_length_8abf5 : MethodName := ⟨RJ4, "length", "()I"⟩
def RJ1 : String := "java/lang/StringLatin1"
def TJ1 : u_T := fun k => match k with
  | _ => ("", "", "", false)
def tyJ1 : Nat → FieldType := fun k => match k with
  | _ => .int
abbrev wsJ10 : List Cond := u_ws RJ1 TJ1 0
theorem nmJ1 : ∀ a, a < 0 → ∀ b, b < 0 → a ≠ b → (TJ1 a).2.1 ≠ (TJ1 b).2.1 := by decide +kernel
theorem tyJ1_ok : ∀ k, k < 0 → parseFieldDescriptor (TJ1 k).2.2.1 = some (tyJ1 k) := by decide +kernel
abbrev cJ1_charAt_3b067 : ByteArray := prog_16_method_2_code
def yJ1_charAt_3b067 : MethodName := ⟨RJ1, "charAt", "([BI)C"⟩
abbrev cJ1_canEncode_fc78d : ByteArray := prog_16_method_3_code
def yJ1_canEncode_fc78d : MethodName := ⟨RJ1, "canEncode", "(C)Z"⟩
abbrev cJ1_fillNull_b72d1 : ByteArray := prog_16_method_48_code
def yJ1_fillNull_b72d1 : MethodName := ⟨RJ1, "fillNull", "([BII)V"⟩
abbrev cJ1_inflate_0e8fd : ByteArray := prog_16_method_50_code
def yJ1_inflate_0e8fd : MethodName := ⟨RJ1, "inflate", "([BI[BII)V"⟩
def RJ2 : String := "java/lang/StringUTF16"
def TJ2 : u_T := fun k => match k with
  | _ => ("", "", "", false)
def tyJ2 : Nat → FieldType := fun k => match k with
  | _ => .int
abbrev wsJ20 : List Cond := u_ws RJ2 TJ2 0
theorem nmJ2 : ∀ a, a < 0 → ∀ b, b < 0 → a ≠ b → (TJ2 a).2.1 ≠ (TJ2 b).2.1 := by decide +kernel
theorem tyJ2_ok : ∀ k, k < 0 → parseFieldDescriptor (TJ2 k).2.2.1 = some (tyJ2 k) := by decide +kernel
abbrev cJ2_newBytesFor_77867 : ByteArray := prog_17_method_2_code
def yJ2_newBytesFor_77867 : MethodName := ⟨RJ2, "newBytesFor", "(I)[B"⟩
abbrev cJ2_newBytesLength_0f7a4 : ByteArray := prog_17_method_3_code
def yJ2_newBytesLength_0f7a4 : MethodName := ⟨RJ2, "newBytesLength", "(I)I"⟩
abbrev cJ2_putChar_b72d1 : ByteArray := prog_17_method_4_code
def yJ2_putChar_b72d1 : MethodName := ⟨RJ2, "putChar", "([BII)V"⟩
abbrev cJ2_getChar_3b067 : ByteArray := prog_17_method_5_code
def yJ2_getChar_3b067 : MethodName := ⟨RJ2, "getChar", "([BI)C"⟩
abbrev cJ2_length_9d52b : ByteArray := prog_17_method_6_code
def yJ2_length_9d52b : MethodName := ⟨RJ2, "length", "([B)I"⟩
abbrev cJ2_fillNull_b72d1 : ByteArray := prog_17_method_70_code
def yJ2_fillNull_b72d1 : MethodName := ⟨RJ2, "fillNull", "([BII)V"⟩
abbrev cJ2_putCharSB_b72d1 : ByteArray := prog_17_method_71_code
def yJ2_putCharSB_b72d1 : MethodName := ⟨RJ2, "putCharSB", "([BII)V"⟩
abbrev cJ2_getChars_46870 : ByteArray := prog_17_method_77_code
def yJ2_getChars_46870 : MethodName := ⟨RJ2, "getChars", "(III[B)I"⟩
abbrev cJ2_charAt_3b067 : ByteArray := prog_17_method_83_code
def yJ2_charAt_3b067 : MethodName := ⟨RJ2, "charAt", "([BI)C"⟩
abbrev cJ2_inflate_0e8fd : ByteArray := prog_17_method_86_code
def yJ2_inflate_0e8fd : MethodName := ⟨RJ2, "inflate", "([BI[BII)V"⟩
abbrev cJ2_getChars_ba4f3 : ByteArray := prog_17_method_89_code
def yJ2_getChars_ba4f3 : MethodName := ⟨RJ2, "getChars", "(II[B)I"⟩
abbrev cJ2_checkIndex_2214a : ByteArray := prog_17_method_91_code
def yJ2_checkIndex_2214a : MethodName := ⟨RJ2, "checkIndex", "(I[B)V"⟩
abbrev cJ2_checkBoundsBeginEnd_d044e : ByteArray := prog_17_method_93_code
def yJ2_checkBoundsBeginEnd_d044e : MethodName := ⟨RJ2, "checkBoundsBeginEnd", "(II[B)V"⟩
abbrev cJ2_checkBoundsOffCount_d044e : ByteArray := prog_17_method_94_code
def yJ2_checkBoundsOffCount_d044e : MethodName := ⟨RJ2, "checkBoundsOffCount", "(II[B)V"⟩
def RJ10 : String := "java/lang/System"
def TJ10 : u_T := fun k => match k with
  | _ => ("", "", "", false)
def tyJ10 : Nat → FieldType := fun k => match k with
  | _ => .int
abbrev wsJ100 : List Cond := u_ws RJ10 TJ10 0
theorem nmJ10 : ∀ a, a < 0 → ∀ b, b < 0 → a ≠ b → (TJ10 a).2.1 ≠ (TJ10 b).2.1 := by decide +kernel
theorem tyJ10_ok : ∀ k, k < 0 → parseFieldDescriptor (TJ10 k).2.2.1 = some (tyJ10 k) := by decide +kernel
def RJ7 : String := "java/util/Arrays"
def TJ7 : u_T := fun k => match k with
  | _ => ("", "", "", false)
def tyJ7 : Nat → FieldType := fun k => match k with
  | _ => .int
abbrev wsJ70 : List Cond := u_ws RJ7 TJ7 0
theorem nmJ7 : ∀ a, a < 0 → ∀ b, b < 0 → a ≠ b → (TJ7 a).2.1 ≠ (TJ7 b).2.1 := by decide +kernel
theorem tyJ7_ok : ∀ k, k < 0 → parseFieldDescriptor (TJ7 k).2.2.1 = some (tyJ7 k) := by decide +kernel
abbrev cJ7_rangeCheck_23922 : ByteArray := prog_19_method_30_code
def yJ7_rangeCheck_23922 : MethodName := ⟨RJ7, "rangeCheck", "(III)V"⟩
abbrev cJ7_fill_eb02e : ByteArray := prog_19_method_110_code
def yJ7_fill_eb02e : MethodName := ⟨RJ7, "fill", "([BIIB)V"⟩
abbrev cJ7_copyOf_9075b : ByteArray := prog_19_method_121_code
def yJ7_copyOf_9075b : MethodName := ⟨RJ7, "copyOf", "([BI)[B"⟩
def RJ8 : String := "jdk/internal/util/ArraysSupport"
def TJ8 : u_T := fun k => match k with
  | _ => ("", "", "", false)
def tyJ8 : Nat → FieldType := fun k => match k with
  | _ => .int
abbrev wsJ80 : List Cond := u_ws RJ8 TJ8 0
theorem nmJ8 : ∀ a, a < 0 → ∀ b, b < 0 → a ≠ b → (TJ8 a).2.1 ≠ (TJ8 b).2.1 := by decide +kernel
theorem tyJ8_ok : ∀ k, k < 0 → parseFieldDescriptor (TJ8 k).2.2.1 = some (tyJ8 k) := by decide +kernel
abbrev cJ8_newLength_cabcc : ByteArray := prog_20_method_27_code
def yJ8_newLength_cabcc : MethodName := ⟨RJ8, "newLength", "(III)I"⟩
abbrev cJ8_hugeLength_7cf53 : ByteArray := prog_20_method_28_code
def yJ8_hugeLength_7cf53 : MethodName := ⟨RJ8, "hugeLength", "(II)I"⟩
def RJ3 : String := "jdk/internal/util/Preconditions"
def TJ3 : u_T := fun k => match k with
  | _ => ("", "", "", false)
def tyJ3 : Nat → FieldType := fun k => match k with
  | _ => .int
abbrev wsJ30 : List Cond := u_ws RJ3 TJ3 0
theorem nmJ3 : ∀ a, a < 0 → ∀ b, b < 0 → a ≠ b → (TJ3 a).2.1 ≠ (TJ3 b).2.1 := by decide +kernel
theorem tyJ3_ok : ∀ k, k < 0 → parseFieldDescriptor (TJ3 k).2.2.1 = some (tyJ3 k) := by decide +kernel
abbrev cJ3_checkIndex_8e157 : ByteArray := prog_21_method_11_code
def yJ3_checkIndex_8e157 : MethodName := ⟨RJ3, "checkIndex", "(IILjava/util/function/BiFunction;)I"⟩
abbrev cJ3_checkFromToIndex_8c36e : ByteArray := prog_21_method_12_code
def yJ3_checkFromToIndex_8c36e : MethodName := ⟨RJ3, "checkFromToIndex", "(IIILjava/util/function/BiFunction;)I"⟩
abbrev cJ3_checkFromIndexSize_8c36e : ByteArray := prog_21_method_13_code
def yJ3_checkFromIndexSize_8c36e : MethodName := ⟨RJ3, "checkFromIndexSize", "(IIILjava/util/function/BiFunction;)I"⟩
def RL : String := "JesterUnionLaw"
abbrev cL_law : ByteArray := code
def yL_law : MethodName := ⟨RL, "law", "([I)Z"⟩
abbrev vwCl : List vw_C := [(RJ4, TJ4, 4), (RX0, TX0, 5), (RX1, TX1, 10), (RX2, TX2, 7), (RX3, TX3, 3), (RX4, TX4, 5), (RX5, TX5, 6), (RX6, TX6, 10), (RX7, TX7, 18)]
end
section
def gw : List Cond := lw_tbl.filter goodWord
theorem gw_tb {w : Cond} (h : w ∈ tables_1) (g : goodWord w = true) : w ∈ gw := List.mem_filter.mpr ⟨List.mem_append_right _ h, g⟩
theorem gk1 {w : Cond} (h : w ∈ tables_1_1) (g : goodWord w = true) : w ∈ gw := gw_tb (show w ∈ tables_1_1 ++ (tables_1_2 ++ (tables_1_3 ++ (tables_1_4 ++ (tables_1_5 ++ tables_1_6)))) from List.mem_append_left _ h) g
theorem gk2 {w : Cond} (h : w ∈ tables_1_2) (g : goodWord w = true) : w ∈ gw := gw_tb (show w ∈ tables_1_1 ++ (tables_1_2 ++ (tables_1_3 ++ (tables_1_4 ++ (tables_1_5 ++ tables_1_6)))) from List.mem_append_right _ (List.mem_append_left _ h)) g
theorem gk3 {w : Cond} (h : w ∈ tables_1_3) (g : goodWord w = true) : w ∈ gw := gw_tb (show w ∈ tables_1_1 ++ (tables_1_2 ++ (tables_1_3 ++ (tables_1_4 ++ (tables_1_5 ++ tables_1_6)))) from List.mem_append_right _ (List.mem_append_right _ (List.mem_append_left _ h))) g
theorem gk4 {w : Cond} (h : w ∈ tables_1_4) (g : goodWord w = true) : w ∈ gw := gw_tb (show w ∈ tables_1_1 ++ (tables_1_2 ++ (tables_1_3 ++ (tables_1_4 ++ (tables_1_5 ++ tables_1_6)))) from List.mem_append_right _ (List.mem_append_right _ (List.mem_append_right _ (List.mem_append_left _ h)))) g
theorem gk5 {w : Cond} (h : w ∈ tables_1_5) (g : goodWord w = true) : w ∈ gw := gw_tb (show w ∈ tables_1_1 ++ (tables_1_2 ++ (tables_1_3 ++ (tables_1_4 ++ (tables_1_5 ++ tables_1_6)))) from List.mem_append_right _ (List.mem_append_right _ (List.mem_append_right _ (List.mem_append_right _ (List.mem_append_left _ h))))) g
theorem gk6 {w : Cond} (h : w ∈ tables_1_6) (g : goodWord w = true) : w ∈ gw := gw_tb (show w ∈ tables_1_1 ++ (tables_1_2 ++ (tables_1_3 ++ (tables_1_4 ++ (tables_1_5 ++ tables_1_6)))) from List.mem_append_right _ (List.mem_append_right _ (List.mem_append_right _ (List.mem_append_right _ (List.mem_append_right _ (h)))))) g
theorem q1_0 : Cond.initialized "JesterUnionLaw" ∈ gw := gk1 (List.mem_of_getElem? (i := 0) (by decide +kernel)) (by decide +kernel)
theorem q1_1 : Cond.initialized "JesterUnion" ∈ gw := gk1 (List.mem_of_getElem? (i := 1) (by decide +kernel)) (by decide +kernel)
theorem q1_2 : Cond.initialized "JesterUnion$Court" ∈ gw := gk1 (List.mem_of_getElem? (i := 2) (by decide +kernel)) (by decide +kernel)
theorem q1_3 : Cond.initialized "JesterUnion$Fools" ∈ gw := gk1 (List.mem_of_getElem? (i := 3) (by decide +kernel)) (by decide +kernel)
theorem q1_4 : Cond.initialized "JesterUnion$Jokes" ∈ gw := gk1 (List.mem_of_getElem? (i := 4) (by decide +kernel)) (by decide +kernel)
theorem q1_5 : Cond.initialized "JesterUnion$Bookings" ∈ gw := gk1 (List.mem_of_getElem? (i := 5) (by decide +kernel)) (by decide +kernel)
theorem q1_6 : Cond.initialized "JesterUnion$History" ∈ gw := gk1 (List.mem_of_getElem? (i := 6) (by decide +kernel)) (by decide +kernel)
theorem q1_7 : Cond.initialized "JesterUnion$OrderText" ∈ gw := gk1 (List.mem_of_getElem? (i := 7) (by decide +kernel)) (by decide +kernel)
theorem q1_8 : Cond.initialized "java/lang/AbstractStringBuilder" ∈ gw := gk1 (List.mem_of_getElem? (i := 8) (by decide +kernel)) (by decide +kernel)
theorem q1_9 : Cond.initialized "java/lang/StringBuilder" ∈ gw := gk1 (List.mem_of_getElem? (i := 9) (by decide +kernel)) (by decide +kernel)
theorem q1_10 : Cond.initialized "java/lang/String" ∈ gw := gk1 (List.mem_of_getElem? (i := 10) (by decide +kernel)) (by decide +kernel)
theorem q1_11 : Cond.initialized "java/lang/StringUTF16" ∈ gw := gk1 (List.mem_of_getElem? (i := 11) (by decide +kernel)) (by decide +kernel)
theorem q1_12 : Cond.initialized "JesterUnionModel" ∈ gw := gk1 (List.mem_of_getElem? (i := 12) (by decide +kernel)) (by decide +kernel)
theorem q1_13 : Cond.initialized "java/lang/Math" ∈ gw := gk1 (List.mem_of_getElem? (i := 13) (by decide +kernel)) (by decide +kernel)
theorem q1_14 : Cond.initialized "java/lang/System" ∈ gw := gk1 (List.mem_of_getElem? (i := 14) (by decide +kernel)) (by decide +kernel)
theorem q1_15 : Cond.initialized "jdk/internal/util/ArraysSupport" ∈ gw := gk1 (List.mem_of_getElem? (i := 15) (by decide +kernel)) (by decide +kernel)
theorem q1_16 : Cond.initialized "java/util/Arrays" ∈ gw := gk1 (List.mem_of_getElem? (i := 16) (by decide +kernel)) (by decide +kernel)
theorem q1_17 : Cond.initialized "java/lang/StringLatin1" ∈ gw := gk1 (List.mem_of_getElem? (i := 17) (by decide +kernel)) (by decide +kernel)
theorem q1_18 : Cond.initialized "jdk/internal/util/Preconditions" ∈ gw := gk1 (List.mem_of_getElem? (i := 18) (by decide +kernel)) (by decide +kernel)
theorem q1_19 : Cond.initialized "java/lang/Integer" ∈ gw := gk1 (List.mem_of_getElem? (i := 19) (by decide +kernel)) (by decide +kernel)
theorem q1_20 : Cond.classLink "JesterUnionLaw" 7 "JesterUnion" ∈ gw := gk1 (List.mem_of_getElem? (i := 20) (by decide +kernel)) (by decide +kernel)
theorem q1_21 : Cond.instantiable "JesterUnion" 10 ∈ gw := gk1 (List.mem_of_getElem? (i := 21) (by decide +kernel)) (by decide +kernel)
theorem q1_22 : Cond.methodLink "JesterUnionLaw" 9 ⟨"JesterUnion", "<init>", "()V"⟩ ∈ gw := gk1 (List.mem_of_getElem? (i := 22) (by decide +kernel)) (by decide +kernel)
theorem q1_23 : Cond.instanceMethod ⟨"JesterUnion", "<init>", "()V"⟩ ∈ gw := gk1 (List.mem_of_getElem? (i := 23) (by decide +kernel)) (by decide +kernel)
theorem q1_24 : Cond.code ⟨"JesterUnion", "<init>", "()V"⟩ prog_1_method_1_code 1 (Option.none : Option FieldType) ∈ gw := gk1 (List.mem_of_getElem? (i := 24) (by decide +kernel)) (by decide +kernel)
theorem q1_25 : Cond.methodLink "JesterUnion" 1 ⟨"java/lang/Object", "<init>", "()V"⟩ ∈ gw := gk1 (List.mem_of_getElem? (i := 25) (by decide +kernel)) (by decide +kernel)
theorem q1_26 : Cond.instanceMethod ⟨"java/lang/Object", "<init>", "()V"⟩ ∈ gw := gk1 (List.mem_of_getElem? (i := 26) (by decide +kernel)) (by decide +kernel)
theorem q1_27 : Cond.code ⟨"java/lang/Object", "<init>", "()V"⟩ object_method_1_code 1 (Option.none : Option FieldType) ∈ gw := gk1 (List.mem_of_getElem? (i := 27) (by decide +kernel)) (by decide +kernel)
theorem q1_28 : Cond.classLink "JesterUnion" 7 "JesterUnion$Court" ∈ gw := gk1 (List.mem_of_getElem? (i := 28) (by decide +kernel)) (by decide +kernel)
theorem q1_29 : Cond.instantiable "JesterUnion$Court" 10 ∈ gw := gk1 (List.mem_of_getElem? (i := 29) (by decide +kernel)) (by decide +kernel)
theorem q1_31 : Cond.instanceMethod ⟨"JesterUnion$Court", "<init>", "()V"⟩ ∈ gw := gk1 (List.mem_of_getElem? (i := 31) (by decide +kernel)) (by decide +kernel)
theorem q1_32 : Cond.code ⟨"JesterUnion$Court", "<init>", "()V"⟩ prog_3_method_1_code 1 (Option.none : Option FieldType) ∈ gw := gk1 (List.mem_of_getElem? (i := 32) (by decide +kernel)) (by decide +kernel)
theorem q1_33 : Cond.methodLink "JesterUnion$Court" 3 ⟨"java/lang/Object", "<init>", "()V"⟩ ∈ gw := gk1 (List.mem_of_getElem? (i := 33) (by decide +kernel)) (by decide +kernel)
theorem q1_34 : Cond.classLink "JesterUnion$Court" 9 "JesterUnion$Fools" ∈ gw := gk1 (List.mem_of_getElem? (i := 34) (by decide +kernel)) (by decide +kernel)
theorem q1_35 : Cond.instantiable "JesterUnion$Fools" 7 ∈ gw := gk1 (List.mem_of_getElem? (i := 35) (by decide +kernel)) (by decide +kernel)
theorem q1_37 : Cond.instanceMethod ⟨"JesterUnion$Fools", "<init>", "()V"⟩ ∈ gw := gk1 (List.mem_of_getElem? (i := 37) (by decide +kernel)) (by decide +kernel)
theorem q1_38 : Cond.code ⟨"JesterUnion$Fools", "<init>", "()V"⟩ prog_4_method_1_code 1 (Option.none : Option FieldType) ∈ gw := gk1 (List.mem_of_getElem? (i := 38) (by decide +kernel)) (by decide +kernel)
theorem q1_39 : Cond.methodLink "JesterUnion$Fools" 3 ⟨"java/lang/Object", "<init>", "()V"⟩ ∈ gw := gk1 (List.mem_of_getElem? (i := 39) (by decide +kernel)) (by decide +kernel)
theorem q1_40 : Cond.fieldLink "JesterUnion$Fools" 9 "JesterUnion$Fools" "count" "I" ∈ gw := gk1 (List.mem_of_getElem? (i := 40) (by decide +kernel)) (by decide +kernel)
theorem q1_41 : Cond.fieldLink "JesterUnion" 257 "JesterUnion$Fools" "count" "I" ∈ gw := gk1 (List.mem_of_getElem? (i := 41) (by decide +kernel)) (by decide +kernel)
theorem q1_42 : Cond.fieldLink "JesterUnion$Fools" 15 "JesterUnion$Fools" "skill" "[I" ∈ gw := gk1 (List.mem_of_getElem? (i := 42) (by decide +kernel)) (by decide +kernel)
theorem q1_43 : Cond.fieldLink "JesterUnion" 91 "JesterUnion$Fools" "skill" "[I" ∈ gw := gk1 (List.mem_of_getElem? (i := 43) (by decide +kernel)) (by decide +kernel)
theorem q1_44 : Cond.fieldLink "JesterUnion$Court" 92 "JesterUnion$Fools" "skill" "[I" ∈ gw := gk1 (List.mem_of_getElem? (i := 44) (by decide +kernel)) (by decide +kernel)
theorem q1_45 : Cond.fieldLink "JesterUnion$Fools" 19 "JesterUnion$Fools" "coins" "[I" ∈ gw := gk1 (List.mem_of_getElem? (i := 45) (by decide +kernel)) (by decide +kernel)
theorem q1_46 : Cond.fieldLink "JesterUnion" 95 "JesterUnion$Fools" "coins" "[I" ∈ gw := gk1 (List.mem_of_getElem? (i := 46) (by decide +kernel)) (by decide +kernel)
theorem q1_47 : Cond.fieldLink "JesterUnion$Court" 158 "JesterUnion$Fools" "coins" "[I" ∈ gw := gk1 (List.mem_of_getElem? (i := 47) (by decide +kernel)) (by decide +kernel)
theorem q1_48 : Cond.fieldLink "JesterUnion$Fools" 22 "JesterUnion$Fools" "tears" "[I" ∈ gw := gk1 (List.mem_of_getElem? (i := 48) (by decide +kernel)) (by decide +kernel)
theorem q1_49 : Cond.fieldLink "JesterUnion" 98 "JesterUnion$Fools" "tears" "[I" ∈ gw := gk1 (List.mem_of_getElem? (i := 49) (by decide +kernel)) (by decide +kernel)
theorem q1_50 : Cond.fieldLink "JesterUnion$Court" 146 "JesterUnion$Fools" "tears" "[I" ∈ gw := gk1 (List.mem_of_getElem? (i := 50) (by decide +kernel)) (by decide +kernel)
theorem q1_51 : Cond.fieldLink "JesterUnion$Fools" 25 "JesterUnion$Fools" "insured" "[I" ∈ gw := gk1 (List.mem_of_getElem? (i := 51) (by decide +kernel)) (by decide +kernel)
theorem q1_52 : Cond.fieldLink "JesterUnion" 101 "JesterUnion$Fools" "insured" "[I" ∈ gw := gk1 (List.mem_of_getElem? (i := 52) (by decide +kernel)) (by decide +kernel)
theorem q1_53 : Cond.fieldLink "JesterUnion$Court" 152 "JesterUnion$Fools" "insured" "[I" ∈ gw := gk1 (List.mem_of_getElem? (i := 53) (by decide +kernel)) (by decide +kernel)
theorem q1_54 : Cond.fieldLink "JesterUnion$Fools" 28 "JesterUnion$Fools" "told" "[I" ∈ gw := gk1 (List.mem_of_getElem? (i := 54) (by decide +kernel)) (by decide +kernel)
theorem q1_55 : Cond.fieldLink "JesterUnion" 120 "JesterUnion$Fools" "told" "[I" ∈ gw := gk1 (List.mem_of_getElem? (i := 55) (by decide +kernel)) (by decide +kernel)
theorem q1_56 : Cond.fieldLink "JesterUnion$Court" 140 "JesterUnion$Fools" "told" "[I" ∈ gw := gk1 (List.mem_of_getElem? (i := 56) (by decide +kernel)) (by decide +kernel)
theorem q1_57 : Cond.fieldLink "JesterUnion$Fools" 31 "JesterUnion$Fools" "slips" "[I" ∈ gw := gk1 (List.mem_of_getElem? (i := 57) (by decide +kernel)) (by decide +kernel)
theorem q1_58 : Cond.fieldLink "JesterUnion" 123 "JesterUnion$Fools" "slips" "[I" ∈ gw := gk1 (List.mem_of_getElem? (i := 58) (by decide +kernel)) (by decide +kernel)
theorem q1_59 : Cond.fieldLink "JesterUnion$Court" 149 "JesterUnion$Fools" "slips" "[I" ∈ gw := gk1 (List.mem_of_getElem? (i := 59) (by decide +kernel)) (by decide +kernel)
theorem q1_60 : Cond.lays "JesterUnion$Fools" "JesterUnion$Fools" "count" "I" ∈ gw := gk1 (List.mem_of_getElem? (i := 60) (by decide +kernel)) (by decide +kernel)
theorem q1_62 : Cond.laysFinal "JesterUnion$Fools" "JesterUnion$Fools" "skill" "[I" ∈ gw := gk1 (List.mem_of_getElem? (i := 62) (by decide +kernel)) (by decide +kernel)
theorem q1_64 : Cond.laysFinal "JesterUnion$Fools" "JesterUnion$Fools" "coins" "[I" ∈ gw := gk1 (List.mem_of_getElem? (i := 64) (by decide +kernel)) (by decide +kernel)
theorem q1_66 : Cond.laysFinal "JesterUnion$Fools" "JesterUnion$Fools" "tears" "[I" ∈ gw := gk1 (List.mem_of_getElem? (i := 66) (by decide +kernel)) (by decide +kernel)
theorem q1_68 : Cond.laysFinal "JesterUnion$Fools" "JesterUnion$Fools" "insured" "[I" ∈ gw := gk1 (List.mem_of_getElem? (i := 68) (by decide +kernel)) (by decide +kernel)
theorem q1_70 : Cond.laysFinal "JesterUnion$Fools" "JesterUnion$Fools" "told" "[I" ∈ gw := gk1 (List.mem_of_getElem? (i := 70) (by decide +kernel)) (by decide +kernel)
theorem q1_72 : Cond.laysFinal "JesterUnion$Fools" "JesterUnion$Fools" "slips" "[I" ∈ gw := gk1 (List.mem_of_getElem? (i := 72) (by decide +kernel)) (by decide +kernel)
theorem q1_74 : Cond.superclass "JesterUnion$Fools" "java/lang/Object" ∈ gw := gk1 (List.mem_of_getElem? (i := 74) (by decide +kernel)) (by decide +kernel)
theorem q1_75 : Cond.arrayClass FieldType.int ∈ gw := gk1 (List.mem_of_getElem? (i := 75) (by decide +kernel)) (by decide +kernel)
theorem q1_76 : Cond.classLink "JesterUnion$Court" 18 "JesterUnion$Jokes" ∈ gw := gk1 (List.mem_of_getElem? (i := 76) (by decide +kernel)) (by decide +kernel)
theorem q1_77 : Cond.instantiable "JesterUnion$Jokes" 5 ∈ gw := gk1 (List.mem_of_getElem? (i := 77) (by decide +kernel)) (by decide +kernel)
theorem q1_79 : Cond.instanceMethod ⟨"JesterUnion$Jokes", "<init>", "()V"⟩ ∈ gw := gk1 (List.mem_of_getElem? (i := 79) (by decide +kernel)) (by decide +kernel)
theorem q1_80 : Cond.code ⟨"JesterUnion$Jokes", "<init>", "()V"⟩ prog_6_method_1_code 1 (Option.none : Option FieldType) ∈ gw := gk1 (List.mem_of_getElem? (i := 80) (by decide +kernel)) (by decide +kernel)
theorem q1_81 : Cond.methodLink "JesterUnion$Jokes" 3 ⟨"java/lang/Object", "<init>", "()V"⟩ ∈ gw := gk1 (List.mem_of_getElem? (i := 81) (by decide +kernel)) (by decide +kernel)
theorem q1_82 : Cond.fieldLink "JesterUnion$Jokes" 9 "JesterUnion$Jokes" "count" "I" ∈ gw := gk1 (List.mem_of_getElem? (i := 82) (by decide +kernel)) (by decide +kernel)
theorem q1_83 : Cond.fieldLink "JesterUnion$Court" 79 "JesterUnion$Jokes" "count" "I" ∈ gw := gk1 (List.mem_of_getElem? (i := 83) (by decide +kernel)) (by decide +kernel)
theorem q1_84 : Cond.fieldLink "JesterUnion" 258 "JesterUnion$Jokes" "count" "I" ∈ gw := gk1 (List.mem_of_getElem? (i := 84) (by decide +kernel)) (by decide +kernel)
theorem q1_85 : Cond.fieldLink "JesterUnion$Jokes" 15 "JesterUnion$Jokes" "wit" "[I" ∈ gw := gk1 (List.mem_of_getElem? (i := 85) (by decide +kernel)) (by decide +kernel)
theorem q1_86 : Cond.fieldLink "JesterUnion" 133 "JesterUnion$Jokes" "wit" "[I" ∈ gw := gk1 (List.mem_of_getElem? (i := 86) (by decide +kernel)) (by decide +kernel)
theorem q1_87 : Cond.fieldLink "JesterUnion$Court" 89 "JesterUnion$Jokes" "wit" "[I" ∈ gw := gk1 (List.mem_of_getElem? (i := 87) (by decide +kernel)) (by decide +kernel)
theorem q1_88 : Cond.fieldLink "JesterUnion$Jokes" 19 "JesterUnion$Jokes" "owner" "[I" ∈ gw := gk1 (List.mem_of_getElem? (i := 88) (by decide +kernel)) (by decide +kernel)
theorem q1_89 : Cond.fieldLink "JesterUnion$Court" 76 "JesterUnion$Jokes" "owner" "[I" ∈ gw := gk1 (List.mem_of_getElem? (i := 89) (by decide +kernel)) (by decide +kernel)
theorem q1_90 : Cond.fieldLink "JesterUnion" 139 "JesterUnion$Jokes" "owner" "[I" ∈ gw := gk1 (List.mem_of_getElem? (i := 90) (by decide +kernel)) (by decide +kernel)
theorem q1_91 : Cond.fieldLink "JesterUnion$Jokes" 22 "JesterUnion$Jokes" "end" "[I" ∈ gw := gk1 (List.mem_of_getElem? (i := 91) (by decide +kernel)) (by decide +kernel)
theorem q1_92 : Cond.fieldLink "JesterUnion$Court" 69 "JesterUnion$Jokes" "end" "[I" ∈ gw := gk1 (List.mem_of_getElem? (i := 92) (by decide +kernel)) (by decide +kernel)
theorem q1_93 : Cond.fieldLink "JesterUnion" 142 "JesterUnion$Jokes" "end" "[I" ∈ gw := gk1 (List.mem_of_getElem? (i := 93) (by decide +kernel)) (by decide +kernel)
theorem q1_94 : Cond.fieldLink "JesterUnion$Jokes" 25 "JesterUnion$Jokes" "told" "[I" ∈ gw := gk1 (List.mem_of_getElem? (i := 94) (by decide +kernel)) (by decide +kernel)
theorem q1_95 : Cond.lays "JesterUnion$Jokes" "JesterUnion$Jokes" "count" "I" ∈ gw := gk1 (List.mem_of_getElem? (i := 95) (by decide +kernel)) (by decide +kernel)
theorem q1_97 : Cond.laysFinal "JesterUnion$Jokes" "JesterUnion$Jokes" "wit" "[I" ∈ gw := gk1 (List.mem_of_getElem? (i := 97) (by decide +kernel)) (by decide +kernel)
theorem q1_99 : Cond.laysFinal "JesterUnion$Jokes" "JesterUnion$Jokes" "owner" "[I" ∈ gw := gk1 (List.mem_of_getElem? (i := 99) (by decide +kernel)) (by decide +kernel)
theorem q1_101 : Cond.laysFinal "JesterUnion$Jokes" "JesterUnion$Jokes" "end" "[I" ∈ gw := gk1 (List.mem_of_getElem? (i := 101) (by decide +kernel)) (by decide +kernel)
theorem q1_103 : Cond.laysFinal "JesterUnion$Jokes" "JesterUnion$Jokes" "told" "[I" ∈ gw := gk1 (List.mem_of_getElem? (i := 103) (by decide +kernel)) (by decide +kernel)
theorem q1_105 : Cond.superclass "JesterUnion$Jokes" "java/lang/Object" ∈ gw := gk1 (List.mem_of_getElem? (i := 105) (by decide +kernel)) (by decide +kernel)
theorem q1_106 : Cond.classLink "JesterUnion$Court" 25 "JesterUnion$Bookings" ∈ gw := gk1 (List.mem_of_getElem? (i := 106) (by decide +kernel)) (by decide +kernel)
theorem q1_107 : Cond.instantiable "JesterUnion$Bookings" 5 ∈ gw := gk1 (List.mem_of_getElem? (i := 107) (by decide +kernel)) (by decide +kernel)
theorem q1_109 : Cond.instanceMethod ⟨"JesterUnion$Bookings", "<init>", "()V"⟩ ∈ gw := gk1 (List.mem_of_getElem? (i := 109) (by decide +kernel)) (by decide +kernel)
theorem q1_110 : Cond.code ⟨"JesterUnion$Bookings", "<init>", "()V"⟩ prog_2_method_1_code 1 (Option.none : Option FieldType) ∈ gw := gk1 (List.mem_of_getElem? (i := 110) (by decide +kernel)) (by decide +kernel)
theorem q1_111 : Cond.methodLink "JesterUnion$Bookings" 3 ⟨"java/lang/Object", "<init>", "()V"⟩ ∈ gw := gk1 (List.mem_of_getElem? (i := 111) (by decide +kernel)) (by decide +kernel)
theorem q1_112 : Cond.fieldLink "JesterUnion$Bookings" 9 "JesterUnion$Bookings" "count" "I" ∈ gw := gk1 (List.mem_of_getElem? (i := 112) (by decide +kernel)) (by decide +kernel)
theorem q1_113 : Cond.fieldLink "JesterUnion$Court" 111 "JesterUnion$Bookings" "count" "I" ∈ gw := gk1 (List.mem_of_getElem? (i := 113) (by decide +kernel)) (by decide +kernel)
theorem q1_114 : Cond.fieldLink "JesterUnion" 187 "JesterUnion$Bookings" "count" "I" ∈ gw := gk1 (List.mem_of_getElem? (i := 114) (by decide +kernel)) (by decide +kernel)
theorem q1_115 : Cond.fieldLink "JesterUnion$Bookings" 15 "JesterUnion$Bookings" "fool" "[I" ∈ gw := gk1 (List.mem_of_getElem? (i := 115) (by decide +kernel)) (by decide +kernel)
theorem q1_116 : Cond.fieldLink "JesterUnion" 111 "JesterUnion$Bookings" "fool" "[I" ∈ gw := gk1 (List.mem_of_getElem? (i := 116) (by decide +kernel)) (by decide +kernel)
theorem q1_117 : Cond.fieldLink "JesterUnion$Court" 121 "JesterUnion$Bookings" "fool" "[I" ∈ gw := gk1 (List.mem_of_getElem? (i := 117) (by decide +kernel)) (by decide +kernel)
theorem q1_118 : Cond.fieldLink "JesterUnion$Bookings" 19 "JesterUnion$Bookings" "joke" "[I" ∈ gw := gk1 (List.mem_of_getElem? (i := 118) (by decide +kernel)) (by decide +kernel)
theorem q1_119 : Cond.fieldLink "JesterUnion" 151 "JesterUnion$Bookings" "joke" "[I" ∈ gw := gk1 (List.mem_of_getElem? (i := 119) (by decide +kernel)) (by decide +kernel)
theorem q1_120 : Cond.fieldLink "JesterUnion$Court" 118 "JesterUnion$Bookings" "joke" "[I" ∈ gw := gk1 (List.mem_of_getElem? (i := 120) (by decide +kernel)) (by decide +kernel)
theorem q1_121 : Cond.fieldLink "JesterUnion$Bookings" 22 "JesterUnion$Bookings" "throne" "[I" ∈ gw := gk1 (List.mem_of_getElem? (i := 121) (by decide +kernel)) (by decide +kernel)
theorem q1_122 : Cond.fieldLink "JesterUnion" 170 "JesterUnion$Bookings" "throne" "[I" ∈ gw := gk1 (List.mem_of_getElem? (i := 122) (by decide +kernel)) (by decide +kernel)
theorem q1_123 : Cond.fieldLink "JesterUnion$Court" 124 "JesterUnion$Bookings" "throne" "[I" ∈ gw := gk1 (List.mem_of_getElem? (i := 123) (by decide +kernel)) (by decide +kernel)
theorem q1_124 : Cond.fieldLink "JesterUnion$Bookings" 25 "JesterUnion$Bookings" "hour" "[I" ∈ gw := gk1 (List.mem_of_getElem? (i := 124) (by decide +kernel)) (by decide +kernel)
theorem q1_125 : Cond.fieldLink "JesterUnion$Court" 116 "JesterUnion$Bookings" "hour" "[I" ∈ gw := gk1 (List.mem_of_getElem? (i := 125) (by decide +kernel)) (by decide +kernel)
theorem q1_126 : Cond.fieldLink "JesterUnion" 190 "JesterUnion$Bookings" "hour" "[I" ∈ gw := gk1 (List.mem_of_getElem? (i := 126) (by decide +kernel)) (by decide +kernel)
theorem q1_127 : Cond.lays "JesterUnion$Bookings" "JesterUnion$Bookings" "count" "I" ∈ gw := gk1 (List.mem_of_getElem? (i := 127) (by decide +kernel)) (by decide +kernel)
theorem q1_129 : Cond.laysFinal "JesterUnion$Bookings" "JesterUnion$Bookings" "fool" "[I" ∈ gw := gk1 (List.mem_of_getElem? (i := 129) (by decide +kernel)) (by decide +kernel)
theorem q1_131 : Cond.laysFinal "JesterUnion$Bookings" "JesterUnion$Bookings" "joke" "[I" ∈ gw := gk1 (List.mem_of_getElem? (i := 131) (by decide +kernel)) (by decide +kernel)
theorem q1_133 : Cond.laysFinal "JesterUnion$Bookings" "JesterUnion$Bookings" "throne" "[I" ∈ gw := gk1 (List.mem_of_getElem? (i := 133) (by decide +kernel)) (by decide +kernel)
theorem q1_135 : Cond.laysFinal "JesterUnion$Bookings" "JesterUnion$Bookings" "hour" "[I" ∈ gw := gk1 (List.mem_of_getElem? (i := 135) (by decide +kernel)) (by decide +kernel)
theorem q1_137 : Cond.superclass "JesterUnion$Bookings" "java/lang/Object" ∈ gw := gk1 (List.mem_of_getElem? (i := 137) (by decide +kernel)) (by decide +kernel)
theorem q1_138 : Cond.fieldLink "JesterUnion$Court" 12 "JesterUnion$Court" "fools" "LJesterUnion$Fools;" ∈ gw := gk1 (List.mem_of_getElem? (i := 138) (by decide +kernel)) (by decide +kernel)
theorem q1_139 : Cond.fieldLink "JesterUnion" 81 "JesterUnion$Court" "fools" "LJesterUnion$Fools;" ∈ gw := gk1 (List.mem_of_getElem? (i := 139) (by decide +kernel)) (by decide +kernel)
theorem q1_140 : Cond.fieldLink "JesterUnion$Court" 21 "JesterUnion$Court" "jokes" "LJesterUnion$Jokes;" ∈ gw := gk1 (List.mem_of_getElem? (i := 140) (by decide +kernel)) (by decide +kernel)
theorem q1_141 : Cond.fieldLink "JesterUnion" 126 "JesterUnion$Court" "jokes" "LJesterUnion$Jokes;" ∈ gw := gk1 (List.mem_of_getElem? (i := 141) (by decide +kernel)) (by decide +kernel)
theorem q1_142 : Cond.fieldLink "JesterUnion$Court" 28 "JesterUnion$Court" "bookings" "LJesterUnion$Bookings;" ∈ gw := gk1 (List.mem_of_getElem? (i := 142) (by decide +kernel)) (by decide +kernel)
theorem q1_143 : Cond.fieldLink "JesterUnion" 107 "JesterUnion$Court" "bookings" "LJesterUnion$Bookings;" ∈ gw := gk1 (List.mem_of_getElem? (i := 143) (by decide +kernel)) (by decide +kernel)
theorem q1_144 : Cond.fieldLink "JesterUnion$Court" 32 "JesterUnion$Court" "exempt" "[I" ∈ gw := gk1 (List.mem_of_getElem? (i := 144) (by decide +kernel)) (by decide +kernel)
theorem q1_145 : Cond.fieldLink "JesterUnion" 161 "JesterUnion$Court" "exempt" "[I" ∈ gw := gk1 (List.mem_of_getElem? (i := 145) (by decide +kernel)) (by decide +kernel)
theorem q1_146 : Cond.fieldLink "JesterUnion$Court" 36 "JesterUnion$Court" "paid" "[I" ∈ gw := gk1 (List.mem_of_getElem? (i := 146) (by decide +kernel)) (by decide +kernel)
theorem q1_147 : Cond.fieldLink "JesterUnion" 167 "JesterUnion$Court" "paid" "[I" ∈ gw := gk1 (List.mem_of_getElem? (i := 147) (by decide +kernel)) (by decide +kernel)
theorem q1_148 : Cond.fieldLink "JesterUnion$Court" 39 "JesterUnion$Court" "hour" "I" ∈ gw := gk1 (List.mem_of_getElem? (i := 148) (by decide +kernel)) (by decide +kernel)
theorem q1_149 : Cond.fieldLink "JesterUnion" 145 "JesterUnion$Court" "hour" "I" ∈ gw := gk1 (List.mem_of_getElem? (i := 149) (by decide +kernel)) (by decide +kernel)
theorem q1_150 : Cond.fieldLink "JesterUnion$Court" 43 "JesterUnion$Court" "brought" "I" ∈ gw := gk1 (List.mem_of_getElem? (i := 150) (by decide +kernel)) (by decide +kernel)
theorem q1_151 : Cond.fieldLink "JesterUnion" 259 "JesterUnion$Court" "brought" "I" ∈ gw := gk1 (List.mem_of_getElem? (i := 151) (by decide +kernel)) (by decide +kernel)
theorem q1_152 : Cond.fieldLink "JesterUnion$Court" 46 "JesterUnion$Court" "union" "I" ∈ gw := gk1 (List.mem_of_getElem? (i := 152) (by decide +kernel)) (by decide +kernel)
theorem q1_153 : Cond.fieldLink "JesterUnion" 262 "JesterUnion$Court" "union" "I" ∈ gw := gk1 (List.mem_of_getElem? (i := 153) (by decide +kernel)) (by decide +kernel)
theorem q1_154 : Cond.fieldLink "JesterUnion$Court" 49 "JesterUnion$Court" "lost" "I" ∈ gw := gk1 (List.mem_of_getElem? (i := 154) (by decide +kernel)) (by decide +kernel)
theorem q1_155 : Cond.fieldLink "JesterUnion" 265 "JesterUnion$Court" "lost" "I" ∈ gw := gk1 (List.mem_of_getElem? (i := 155) (by decide +kernel)) (by decide +kernel)
theorem q1_156 : Cond.fieldLink "JesterUnion$Court" 52 "JesterUnion$Court" "carriedOut" "I" ∈ gw := gk1 (List.mem_of_getElem? (i := 156) (by decide +kernel)) (by decide +kernel)
theorem q1_157 : Cond.fieldLink "JesterUnion" 268 "JesterUnion$Court" "carriedOut" "I" ∈ gw := gk1 (List.mem_of_getElem? (i := 157) (by decide +kernel)) (by decide +kernel)
theorem q1_158 : Cond.laysFinal "JesterUnion$Court" "JesterUnion$Court" "fools" "LJesterUnion$Fools;" ∈ gw := gk1 (List.mem_of_getElem? (i := 158) (by decide +kernel)) (by decide +kernel)
theorem q1_160 : Cond.laysFinal "JesterUnion$Court" "JesterUnion$Court" "jokes" "LJesterUnion$Jokes;" ∈ gw := gk1 (List.mem_of_getElem? (i := 160) (by decide +kernel)) (by decide +kernel)
theorem q1_162 : Cond.laysFinal "JesterUnion$Court" "JesterUnion$Court" "bookings" "LJesterUnion$Bookings;" ∈ gw := gk1 (List.mem_of_getElem? (i := 162) (by decide +kernel)) (by decide +kernel)
theorem q1_164 : Cond.laysFinal "JesterUnion$Court" "JesterUnion$Court" "exempt" "[I" ∈ gw := gk1 (List.mem_of_getElem? (i := 164) (by decide +kernel)) (by decide +kernel)
theorem q1_166 : Cond.laysFinal "JesterUnion$Court" "JesterUnion$Court" "paid" "[I" ∈ gw := gk1 (List.mem_of_getElem? (i := 166) (by decide +kernel)) (by decide +kernel)
theorem q1_168 : Cond.lays "JesterUnion$Court" "JesterUnion$Court" "hour" "I" ∈ gw := gk1 (List.mem_of_getElem? (i := 168) (by decide +kernel)) (by decide +kernel)
theorem q1_170 : Cond.lays "JesterUnion$Court" "JesterUnion$Court" "brought" "I" ∈ gw := gk1 (List.mem_of_getElem? (i := 170) (by decide +kernel)) (by decide +kernel)
theorem q1_172 : Cond.lays "JesterUnion$Court" "JesterUnion$Court" "union" "I" ∈ gw := gk1 (List.mem_of_getElem? (i := 172) (by decide +kernel)) (by decide +kernel)
theorem q1_174 : Cond.lays "JesterUnion$Court" "JesterUnion$Court" "lost" "I" ∈ gw := gk1 (List.mem_of_getElem? (i := 174) (by decide +kernel)) (by decide +kernel)
theorem q1_176 : Cond.lays "JesterUnion$Court" "JesterUnion$Court" "carriedOut" "I" ∈ gw := gk1 (List.mem_of_getElem? (i := 176) (by decide +kernel)) (by decide +kernel)
theorem q1_178 : Cond.superclass "JesterUnion$Court" "java/lang/Object" ∈ gw := gk1 (List.mem_of_getElem? (i := 178) (by decide +kernel)) (by decide +kernel)
theorem q1_179 : Cond.classLink "JesterUnion" 25 "JesterUnion$History" ∈ gw := gk1 (List.mem_of_getElem? (i := 179) (by decide +kernel)) (by decide +kernel)
theorem q1_180 : Cond.instantiable "JesterUnion$History" 3 ∈ gw := gk1 (List.mem_of_getElem? (i := 180) (by decide +kernel)) (by decide +kernel)
theorem q1_181 : Cond.methodLink "JesterUnion" 27 ⟨"JesterUnion$History", "<init>", "()V"⟩ ∈ gw := gk1 (List.mem_of_getElem? (i := 181) (by decide +kernel)) (by decide +kernel)
theorem q1_182 : Cond.instanceMethod ⟨"JesterUnion$History", "<init>", "()V"⟩ ∈ gw := gk1 (List.mem_of_getElem? (i := 182) (by decide +kernel)) (by decide +kernel)
theorem q1_183 : Cond.code ⟨"JesterUnion$History", "<init>", "()V"⟩ prog_5_method_1_code 2 (Option.none : Option FieldType) ∈ gw := gk1 (List.mem_of_getElem? (i := 183) (by decide +kernel)) (by decide +kernel)
theorem q1_184 : Cond.methodLink "JesterUnion$History" 3 ⟨"java/lang/Object", "<init>", "()V"⟩ ∈ gw := gk1 (List.mem_of_getElem? (i := 184) (by decide +kernel)) (by decide +kernel)
theorem q1_185 : Cond.classLink "JesterUnion$History" 18 "JesterUnion$Court" ∈ gw := gk1 (List.mem_of_getElem? (i := 185) (by decide +kernel)) (by decide +kernel)
theorem q1_188 : Cond.fieldLink "JesterUnion$History" 9 "JesterUnion$History" "count" "I" ∈ gw := gk1 (List.mem_of_getElem? (i := 188) (by decide +kernel)) (by decide +kernel)
theorem q1_189 : Cond.fieldLink "JesterUnion" 274 "JesterUnion$History" "count" "I" ∈ gw := gk1 (List.mem_of_getElem? (i := 189) (by decide +kernel)) (by decide +kernel)
theorem q1_190 : Cond.fieldLink "JesterUnion$History" 15 "JesterUnion$History" "nextSlot" "I" ∈ gw := gk1 (List.mem_of_getElem? (i := 190) (by decide +kernel)) (by decide +kernel)
theorem q1_191 : Cond.fieldLink "JesterUnion$History" 20 "JesterUnion$History" "slots" "[LJesterUnion$Court;" ∈ gw := gk1 (List.mem_of_getElem? (i := 191) (by decide +kernel)) (by decide +kernel)
theorem q1_192 : Cond.lays "JesterUnion$History" "JesterUnion$History" "count" "I" ∈ gw := gk1 (List.mem_of_getElem? (i := 192) (by decide +kernel)) (by decide +kernel)
theorem q1_194 : Cond.lays "JesterUnion$History" "JesterUnion$History" "nextSlot" "I" ∈ gw := gk1 (List.mem_of_getElem? (i := 194) (by decide +kernel)) (by decide +kernel)
theorem q1_196 : Cond.laysFinal "JesterUnion$History" "JesterUnion$History" "slots" "[LJesterUnion$Court;" ∈ gw := gk1 (List.mem_of_getElem? (i := 196) (by decide +kernel)) (by decide +kernel)
theorem q1_198 : Cond.superclass "JesterUnion$History" "java/lang/Object" ∈ gw := gk1 (List.mem_of_getElem? (i := 198) (by decide +kernel)) (by decide +kernel)
theorem q1_199 : Cond.classLink "JesterUnion" 32 "JesterUnion$OrderText" ∈ gw := gk1 (List.mem_of_getElem? (i := 199) (by decide +kernel)) (by decide +kernel)
theorem q1_200 : Cond.instantiable "JesterUnion$OrderText" 6 ∈ gw := gk1 (List.mem_of_getElem? (i := 200) (by decide +kernel)) (by decide +kernel)
theorem q1_202 : Cond.instanceMethod ⟨"JesterUnion$OrderText", "<init>", "()V"⟩ ∈ gw := gk1 (List.mem_of_getElem? (i := 202) (by decide +kernel)) (by decide +kernel)
theorem q1_203 : Cond.code ⟨"JesterUnion$OrderText", "<init>", "()V"⟩ prog_7_method_1_code 1 (Option.none : Option FieldType) ∈ gw := gk1 (List.mem_of_getElem? (i := 203) (by decide +kernel)) (by decide +kernel)
theorem q1_204 : Cond.methodLink "JesterUnion$OrderText" 3 ⟨"java/lang/Object", "<init>", "()V"⟩ ∈ gw := gk1 (List.mem_of_getElem? (i := 204) (by decide +kernel)) (by decide +kernel)
theorem q1_205 : Cond.classLink "JesterUnion$OrderText" 9 "java/lang/StringBuilder" ∈ gw := gk1 (List.mem_of_getElem? (i := 205) (by decide +kernel)) (by decide +kernel)
theorem q1_206 : Cond.instantiable "java/lang/StringBuilder" 4 ∈ gw := gk1 (List.mem_of_getElem? (i := 206) (by decide +kernel)) (by decide +kernel)
theorem q1_207 : Cond.methodLink "JesterUnion$OrderText" 11 ⟨"java/lang/StringBuilder", "<init>", "()V"⟩ ∈ gw := gk1 (List.mem_of_getElem? (i := 207) (by decide +kernel)) (by decide +kernel)
theorem q1_208 : Cond.instanceMethod ⟨"java/lang/StringBuilder", "<init>", "()V"⟩ ∈ gw := gk1 (List.mem_of_getElem? (i := 208) (by decide +kernel)) (by decide +kernel)
theorem q1_209 : Cond.code ⟨"java/lang/StringBuilder", "<init>", "()V"⟩ prog_15_method_1_code 1 (Option.none : Option FieldType) ∈ gw := gk1 (List.mem_of_getElem? (i := 209) (by decide +kernel)) (by decide +kernel)
theorem q1_210 : Cond.methodLink "java/lang/StringBuilder" 1 ⟨"java/lang/AbstractStringBuilder", "<init>", "(I)V"⟩ ∈ gw := gk1 (List.mem_of_getElem? (i := 210) (by decide +kernel)) (by decide +kernel)
theorem q1_211 : Cond.instanceMethod ⟨"java/lang/AbstractStringBuilder", "<init>", "(I)V"⟩ ∈ gw := gk1 (List.mem_of_getElem? (i := 211) (by decide +kernel)) (by decide +kernel)
theorem q1_212 : Cond.code ⟨"java/lang/AbstractStringBuilder", "<init>", "(I)V"⟩ prog_10_method_2_code 2 (Option.none : Option FieldType) ∈ gw := gk1 (List.mem_of_getElem? (i := 212) (by decide +kernel)) (by decide +kernel)
theorem q1_213 : Cond.methodLink "java/lang/AbstractStringBuilder" 3 ⟨"java/lang/Object", "<init>", "()V"⟩ ∈ gw := gk1 (List.mem_of_getElem? (i := 213) (by decide +kernel)) (by decide +kernel)
theorem q1_214 : Cond.fieldLink "java/lang/AbstractStringBuilder" 18 "java/lang/String" "COMPACT_STRINGS" "Z" ∈ gw := gk1 (List.mem_of_getElem? (i := 214) (by decide +kernel)) (by decide +kernel)
theorem q1_216 : Cond.methodLink "java/lang/AbstractStringBuilder" 26 ⟨"java/lang/StringUTF16", "newBytesFor", "(I)[B"⟩ ∈ gw := gk1 (List.mem_of_getElem? (i := 216) (by decide +kernel)) (by decide +kernel)
theorem q1_217 : Cond.static ⟨"java/lang/StringUTF16", "newBytesFor", "(I)[B"⟩ ∈ gw := gk1 (List.mem_of_getElem? (i := 217) (by decide +kernel)) (by decide +kernel)
theorem q1_218 : Cond.code ⟨"java/lang/StringUTF16", "newBytesFor", "(I)[B"⟩ prog_17_method_2_code 1 (Option.some (FieldType.array FieldType.byte)) ∈ gw := gk1 (List.mem_of_getElem? (i := 218) (by decide +kernel)) (by decide +kernel)
theorem q1_219 : Cond.methodLink "java/lang/StringUTF16" 11 ⟨"java/lang/StringUTF16", "newBytesLength", "(I)I"⟩ ∈ gw := gk1 (List.mem_of_getElem? (i := 219) (by decide +kernel)) (by decide +kernel)
theorem q1_220 : Cond.static ⟨"java/lang/StringUTF16", "newBytesLength", "(I)I"⟩ ∈ gw := gk1 (List.mem_of_getElem? (i := 220) (by decide +kernel)) (by decide +kernel)
theorem q1_221 : Cond.code ⟨"java/lang/StringUTF16", "newBytesLength", "(I)I"⟩ prog_17_method_3_code 1 (Option.some FieldType.int) ∈ gw := gk1 (List.mem_of_getElem? (i := 221) (by decide +kernel)) (by decide +kernel)
theorem q1_222 : Cond.constant "java/lang/StringUTF16" 20 (1073741823 : Int32) ∈ gw := gk1 (List.mem_of_getElem? (i := 222) (by decide +kernel)) (by decide +kernel)
theorem q1_223 : Cond.fieldLink "java/lang/AbstractStringBuilder" 15 "java/lang/AbstractStringBuilder" "value" "[B" ∈ gw := gk1 (List.mem_of_getElem? (i := 223) (by decide +kernel)) (by decide +kernel)
theorem q1_224 : Cond.fieldLink "java/lang/AbstractStringBuilder" 22 "java/lang/AbstractStringBuilder" "coder" "B" ∈ gw := gk1 (List.mem_of_getElem? (i := 224) (by decide +kernel)) (by decide +kernel)
theorem q1_225 : Cond.fieldLink "java/lang/AbstractStringBuilder" 73 "java/lang/AbstractStringBuilder" "maybeLatin1" "Z" ∈ gw := gk1 (List.mem_of_getElem? (i := 225) (by decide +kernel)) (by decide +kernel)
theorem q1_226 : Cond.fieldLink "java/lang/AbstractStringBuilder" 79 "java/lang/AbstractStringBuilder" "count" "I" ∈ gw := gk1 (List.mem_of_getElem? (i := 226) (by decide +kernel)) (by decide +kernel)
theorem q1_227 : Cond.lays "java/lang/StringBuilder" "java/lang/AbstractStringBuilder" "value" "[B" ∈ gw := gk1 (List.mem_of_getElem? (i := 227) (by decide +kernel)) (by decide +kernel)
theorem q1_229 : Cond.lays "java/lang/StringBuilder" "java/lang/AbstractStringBuilder" "coder" "B" ∈ gw := gk1 (List.mem_of_getElem? (i := 229) (by decide +kernel)) (by decide +kernel)
theorem q1_231 : Cond.lays "java/lang/StringBuilder" "java/lang/AbstractStringBuilder" "maybeLatin1" "Z" ∈ gw := gk1 (List.mem_of_getElem? (i := 231) (by decide +kernel)) (by decide +kernel)
theorem q1_233 : Cond.lays "java/lang/StringBuilder" "java/lang/AbstractStringBuilder" "count" "I" ∈ gw := gk1 (List.mem_of_getElem? (i := 233) (by decide +kernel)) (by decide +kernel)
theorem q1_235 : Cond.superclass "java/lang/StringBuilder" "java/lang/AbstractStringBuilder" ∈ gw := gk1 (List.mem_of_getElem? (i := 235) (by decide +kernel)) (by decide +kernel)
theorem q1_236 : Cond.arrayClass FieldType.byte ∈ gw := gk1 (List.mem_of_getElem? (i := 236) (by decide +kernel)) (by decide +kernel)
theorem q1_237 : Cond.fieldLink "JesterUnion$OrderText" 12 "JesterUnion$OrderText" "signs" "Ljava/lang/StringBuilder;" ∈ gw := gk1 (List.mem_of_getElem? (i := 237) (by decide +kernel)) (by decide +kernel)
theorem q1_238 : Cond.fieldLink "JesterUnion" 218 "JesterUnion$OrderText" "signs" "Ljava/lang/StringBuilder;" ∈ gw := gk1 (List.mem_of_getElem? (i := 238) (by decide +kernel)) (by decide +kernel)
theorem q1_239 : Cond.fieldLink "JesterUnion$OrderText" 18 "JesterUnion$OrderText" "count" "I" ∈ gw := gk1 (List.mem_of_getElem? (i := 239) (by decide +kernel)) (by decide +kernel)
theorem q2_0 : Cond.fieldLink "JesterUnion" 239 "JesterUnion$OrderText" "count" "I" ∈ gw := gk2 (List.mem_of_getElem? (i := 0) (by decide +kernel)) (by decide +kernel)
theorem q2_1 : Cond.fieldLink "JesterUnion$OrderText" 22 "JesterUnion$OrderText" "place" "I" ∈ gw := gk2 (List.mem_of_getElem? (i := 1) (by decide +kernel)) (by decide +kernel)
theorem q2_2 : Cond.fieldLink "JesterUnion" 236 "JesterUnion$OrderText" "place" "I" ∈ gw := gk2 (List.mem_of_getElem? (i := 2) (by decide +kernel)) (by decide +kernel)
theorem q2_3 : Cond.fieldLink "JesterUnion$OrderText" 25 "JesterUnion$OrderText" "numbersRead" "I" ∈ gw := gk2 (List.mem_of_getElem? (i := 3) (by decide +kernel)) (by decide +kernel)
theorem q2_4 : Cond.fieldLink "JesterUnion$OrderText" 28 "JesterUnion$OrderText" "letters" "[C" ∈ gw := gk2 (List.mem_of_getElem? (i := 4) (by decide +kernel)) (by decide +kernel)
theorem q2_5 : Cond.fieldLink "JesterUnion$OrderText" 32 "JesterUnion$OrderText" "numbers" "[I" ∈ gw := gk2 (List.mem_of_getElem? (i := 5) (by decide +kernel)) (by decide +kernel)
theorem q2_6 : Cond.laysFinal "JesterUnion$OrderText" "JesterUnion$OrderText" "signs" "Ljava/lang/StringBuilder;" ∈ gw := gk2 (List.mem_of_getElem? (i := 6) (by decide +kernel)) (by decide +kernel)
theorem q2_8 : Cond.lays "JesterUnion$OrderText" "JesterUnion$OrderText" "count" "I" ∈ gw := gk2 (List.mem_of_getElem? (i := 8) (by decide +kernel)) (by decide +kernel)
theorem q2_10 : Cond.lays "JesterUnion$OrderText" "JesterUnion$OrderText" "place" "I" ∈ gw := gk2 (List.mem_of_getElem? (i := 10) (by decide +kernel)) (by decide +kernel)
theorem q2_12 : Cond.lays "JesterUnion$OrderText" "JesterUnion$OrderText" "numbersRead" "I" ∈ gw := gk2 (List.mem_of_getElem? (i := 12) (by decide +kernel)) (by decide +kernel)
theorem q2_14 : Cond.laysFinal "JesterUnion$OrderText" "JesterUnion$OrderText" "letters" "[C" ∈ gw := gk2 (List.mem_of_getElem? (i := 14) (by decide +kernel)) (by decide +kernel)
theorem q2_16 : Cond.laysFinal "JesterUnion$OrderText" "JesterUnion$OrderText" "numbers" "[I" ∈ gw := gk2 (List.mem_of_getElem? (i := 16) (by decide +kernel)) (by decide +kernel)
theorem q2_18 : Cond.superclass "JesterUnion$OrderText" "java/lang/Object" ∈ gw := gk2 (List.mem_of_getElem? (i := 18) (by decide +kernel)) (by decide +kernel)
theorem q2_19 : Cond.arrayClass FieldType.char ∈ gw := gk2 (List.mem_of_getElem? (i := 19) (by decide +kernel)) (by decide +kernel)
theorem q2_20 : Cond.classLink "JesterUnion" 39 "java/lang/StringBuilder" ∈ gw := gk2 (List.mem_of_getElem? (i := 20) (by decide +kernel)) (by decide +kernel)
theorem q2_21 : Cond.methodLink "JesterUnion" 41 ⟨"java/lang/StringBuilder", "<init>", "()V"⟩ ∈ gw := gk2 (List.mem_of_getElem? (i := 21) (by decide +kernel)) (by decide +kernel)
theorem q2_22 : Cond.fieldLink "JesterUnion" 10 "JesterUnion" "now" "LJesterUnion$Court;" ∈ gw := gk2 (List.mem_of_getElem? (i := 22) (by decide +kernel)) (by decide +kernel)
theorem q2_23 : Cond.fieldLink "JesterUnion" 16 "JesterUnion" "before" "LJesterUnion$Court;" ∈ gw := gk2 (List.mem_of_getElem? (i := 23) (by decide +kernel)) (by decide +kernel)
theorem q2_24 : Cond.fieldLink "JesterUnion" 19 "JesterUnion" "trial" "LJesterUnion$Court;" ∈ gw := gk2 (List.mem_of_getElem? (i := 24) (by decide +kernel)) (by decide +kernel)
theorem q2_25 : Cond.fieldLink "JesterUnion" 22 "JesterUnion" "snapshot" "LJesterUnion$Court;" ∈ gw := gk2 (List.mem_of_getElem? (i := 25) (by decide +kernel)) (by decide +kernel)
theorem q2_26 : Cond.fieldLink "JesterUnion" 28 "JesterUnion" "history" "LJesterUnion$History;" ∈ gw := gk2 (List.mem_of_getElem? (i := 26) (by decide +kernel)) (by decide +kernel)
theorem q2_27 : Cond.fieldLink "JesterUnion" 35 "JesterUnion" "text" "LJesterUnion$OrderText;" ∈ gw := gk2 (List.mem_of_getElem? (i := 27) (by decide +kernel)) (by decide +kernel)
theorem q2_28 : Cond.fieldLink "JesterUnion" 42 "JesterUnion" "line" "Ljava/lang/StringBuilder;" ∈ gw := gk2 (List.mem_of_getElem? (i := 28) (by decide +kernel)) (by decide +kernel)
theorem q2_29 : Cond.fieldLink "JesterUnion" 46 "JesterUnion" "isSaved" "Z" ∈ gw := gk2 (List.mem_of_getElem? (i := 29) (by decide +kernel)) (by decide +kernel)
theorem q2_30 : Cond.fieldLink "JesterUnion" 50 "JesterUnion" "latestReason" "I" ∈ gw := gk2 (List.mem_of_getElem? (i := 30) (by decide +kernel)) (by decide +kernel)
theorem q2_31 : Cond.fieldLink "JesterUnion" 54 "JesterUnion" "latestDetail" "I" ∈ gw := gk2 (List.mem_of_getElem? (i := 31) (by decide +kernel)) (by decide +kernel)
theorem q2_32 : Cond.laysFinal "JesterUnion" "JesterUnion" "now" "LJesterUnion$Court;" ∈ gw := gk2 (List.mem_of_getElem? (i := 32) (by decide +kernel)) (by decide +kernel)
theorem q2_34 : Cond.laysFinal "JesterUnion" "JesterUnion" "before" "LJesterUnion$Court;" ∈ gw := gk2 (List.mem_of_getElem? (i := 34) (by decide +kernel)) (by decide +kernel)
theorem q2_36 : Cond.laysFinal "JesterUnion" "JesterUnion" "trial" "LJesterUnion$Court;" ∈ gw := gk2 (List.mem_of_getElem? (i := 36) (by decide +kernel)) (by decide +kernel)
theorem q2_38 : Cond.laysFinal "JesterUnion" "JesterUnion" "snapshot" "LJesterUnion$Court;" ∈ gw := gk2 (List.mem_of_getElem? (i := 38) (by decide +kernel)) (by decide +kernel)
theorem q2_40 : Cond.laysFinal "JesterUnion" "JesterUnion" "history" "LJesterUnion$History;" ∈ gw := gk2 (List.mem_of_getElem? (i := 40) (by decide +kernel)) (by decide +kernel)
theorem q2_42 : Cond.laysFinal "JesterUnion" "JesterUnion" "text" "LJesterUnion$OrderText;" ∈ gw := gk2 (List.mem_of_getElem? (i := 42) (by decide +kernel)) (by decide +kernel)
theorem q2_44 : Cond.laysFinal "JesterUnion" "JesterUnion" "line" "Ljava/lang/StringBuilder;" ∈ gw := gk2 (List.mem_of_getElem? (i := 44) (by decide +kernel)) (by decide +kernel)
theorem q2_46 : Cond.lays "JesterUnion" "JesterUnion" "isSaved" "Z" ∈ gw := gk2 (List.mem_of_getElem? (i := 46) (by decide +kernel)) (by decide +kernel)
theorem q2_48 : Cond.lays "JesterUnion" "JesterUnion" "latestReason" "I" ∈ gw := gk2 (List.mem_of_getElem? (i := 48) (by decide +kernel)) (by decide +kernel)
theorem q2_50 : Cond.lays "JesterUnion" "JesterUnion" "latestDetail" "I" ∈ gw := gk2 (List.mem_of_getElem? (i := 50) (by decide +kernel)) (by decide +kernel)
theorem q2_52 : Cond.superclass "JesterUnion" "java/lang/Object" ∈ gw := gk2 (List.mem_of_getElem? (i := 52) (by decide +kernel)) (by decide +kernel)
theorem q2_53 : Cond.methodLink "JesterUnionLaw" 13 ⟨"JesterUnion", "fool", "(I)I"⟩ ∈ gw := gk2 (List.mem_of_getElem? (i := 53) (by decide +kernel)) (by decide +kernel)
theorem q2_54 : Cond.instanceMethod ⟨"JesterUnion", "fool", "(I)I"⟩ ∈ gw := gk2 (List.mem_of_getElem? (i := 54) (by decide +kernel)) (by decide +kernel)
theorem q2_55 : Cond.selects "JesterUnion" ⟨"JesterUnion", "fool", "(I)I"⟩ ⟨"JesterUnion", "fool", "(I)I"⟩ ∈ gw := gk2 (List.mem_of_getElem? (i := 55) (by decide +kernel)) (by decide +kernel)
theorem q2_56 : Cond.code ⟨"JesterUnion", "fool", "(I)I"⟩ prog_1_method_2_code 2 (Option.some FieldType.int) ∈ gw := gk2 (List.mem_of_getElem? (i := 56) (by decide +kernel)) (by decide +kernel)
theorem q2_57 : Cond.methodLink "JesterUnion" 57 ⟨"JesterUnion$Court", "take", "(LJesterUnion$Court;)V"⟩ ∈ gw := gk2 (List.mem_of_getElem? (i := 57) (by decide +kernel)) (by decide +kernel)
theorem q2_58 : Cond.instanceMethod ⟨"JesterUnion$Court", "take", "(LJesterUnion$Court;)V"⟩ ∈ gw := gk2 (List.mem_of_getElem? (i := 58) (by decide +kernel)) (by decide +kernel)
theorem q2_59 : Cond.selects "JesterUnion$Court" ⟨"JesterUnion$Court", "take", "(LJesterUnion$Court;)V"⟩ ⟨"JesterUnion$Court", "take", "(LJesterUnion$Court;)V"⟩ ∈ gw := gk2 (List.mem_of_getElem? (i := 59) (by decide +kernel)) (by decide +kernel)
theorem q2_60 : Cond.code ⟨"JesterUnion$Court", "take", "(LJesterUnion$Court;)V"⟩ prog_3_method_2_code 2 (Option.none : Option FieldType) ∈ gw := gk2 (List.mem_of_getElem? (i := 60) (by decide +kernel)) (by decide +kernel)
theorem q2_61 : Cond.methodLink "JesterUnion$Court" 55 ⟨"JesterUnion$Fools", "take", "(LJesterUnion$Fools;)V"⟩ ∈ gw := gk2 (List.mem_of_getElem? (i := 61) (by decide +kernel)) (by decide +kernel)
theorem q2_62 : Cond.instanceMethod ⟨"JesterUnion$Fools", "take", "(LJesterUnion$Fools;)V"⟩ ∈ gw := gk2 (List.mem_of_getElem? (i := 62) (by decide +kernel)) (by decide +kernel)
theorem q2_63 : Cond.selects "JesterUnion$Fools" ⟨"JesterUnion$Fools", "take", "(LJesterUnion$Fools;)V"⟩ ⟨"JesterUnion$Fools", "take", "(LJesterUnion$Fools;)V"⟩ ∈ gw := gk2 (List.mem_of_getElem? (i := 63) (by decide +kernel)) (by decide +kernel)
theorem q2_64 : Cond.code ⟨"JesterUnion$Fools", "take", "(LJesterUnion$Fools;)V"⟩ prog_4_method_2_code 2 (Option.none : Option FieldType) ∈ gw := gk2 (List.mem_of_getElem? (i := 64) (by decide +kernel)) (by decide +kernel)
theorem q2_66 : Cond.static ⟨"JesterUnion", "copy", "([I[I)V"⟩ ∈ gw := gk2 (List.mem_of_getElem? (i := 66) (by decide +kernel)) (by decide +kernel)
theorem q2_67 : Cond.code ⟨"JesterUnion", "copy", "([I[I)V"⟩ prog_1_method_55_code 2 (Option.none : Option FieldType) ∈ gw := gk2 (List.mem_of_getElem? (i := 67) (by decide +kernel)) (by decide +kernel)
theorem q2_68 : Cond.methodLink "JesterUnion" 320 ⟨"java/lang/Math", "min", "(II)I"⟩ ∈ gw := gk2 (List.mem_of_getElem? (i := 68) (by decide +kernel)) (by decide +kernel)
theorem q2_69 : Cond.static ⟨"java/lang/Math", "min", "(II)I"⟩ ∈ gw := gk2 (List.mem_of_getElem? (i := 69) (by decide +kernel)) (by decide +kernel)
theorem q2_70 : Cond.code ⟨"java/lang/Math", "min", "(II)I"⟩ prog_13_method_69_code 2 (Option.some FieldType.int) ∈ gw := gk2 (List.mem_of_getElem? (i := 70) (by decide +kernel)) (by decide +kernel)
theorem q2_71 : Cond.methodLink "JesterUnion" 325 ⟨"java/lang/System", "arraycopy", "(Ljava/lang/Object;ILjava/lang/Object;II)V"⟩ ∈ gw := gk2 (List.mem_of_getElem? (i := 71) (by decide +kernel)) (by decide +kernel)
theorem q2_72 : Cond.static ⟨"java/lang/System", "arraycopy", "(Ljava/lang/Object;ILjava/lang/Object;II)V"⟩ ∈ gw := gk2 (List.mem_of_getElem? (i := 72) (by decide +kernel)) (by decide +kernel)
theorem q2_73 : Cond.native ⟨"java/lang/System", "arraycopy", "(Ljava/lang/Object;ILjava/lang/Object;II)V"⟩ ∈ gw := gk2 (List.mem_of_getElem? (i := 73) (by decide +kernel)) (by decide +kernel)
theorem q2_74 : Cond.methodLink "JesterUnion$Court" 59 ⟨"JesterUnion$Jokes", "take", "(LJesterUnion$Jokes;)V"⟩ ∈ gw := gk2 (List.mem_of_getElem? (i := 74) (by decide +kernel)) (by decide +kernel)
theorem q2_75 : Cond.instanceMethod ⟨"JesterUnion$Jokes", "take", "(LJesterUnion$Jokes;)V"⟩ ∈ gw := gk2 (List.mem_of_getElem? (i := 75) (by decide +kernel)) (by decide +kernel)
theorem q2_76 : Cond.selects "JesterUnion$Jokes" ⟨"JesterUnion$Jokes", "take", "(LJesterUnion$Jokes;)V"⟩ ⟨"JesterUnion$Jokes", "take", "(LJesterUnion$Jokes;)V"⟩ ∈ gw := gk2 (List.mem_of_getElem? (i := 76) (by decide +kernel)) (by decide +kernel)
theorem q2_77 : Cond.code ⟨"JesterUnion$Jokes", "take", "(LJesterUnion$Jokes;)V"⟩ prog_6_method_2_code 2 (Option.none : Option FieldType) ∈ gw := gk2 (List.mem_of_getElem? (i := 77) (by decide +kernel)) (by decide +kernel)
theorem q2_79 : Cond.methodLink "JesterUnion$Court" 62 ⟨"JesterUnion$Bookings", "take", "(LJesterUnion$Bookings;)V"⟩ ∈ gw := gk2 (List.mem_of_getElem? (i := 79) (by decide +kernel)) (by decide +kernel)
theorem q2_80 : Cond.instanceMethod ⟨"JesterUnion$Bookings", "take", "(LJesterUnion$Bookings;)V"⟩ ∈ gw := gk2 (List.mem_of_getElem? (i := 80) (by decide +kernel)) (by decide +kernel)
theorem q2_81 : Cond.selects "JesterUnion$Bookings" ⟨"JesterUnion$Bookings", "take", "(LJesterUnion$Bookings;)V"⟩ ⟨"JesterUnion$Bookings", "take", "(LJesterUnion$Bookings;)V"⟩ ∈ gw := gk2 (List.mem_of_getElem? (i := 81) (by decide +kernel)) (by decide +kernel)
theorem q2_82 : Cond.code ⟨"JesterUnion$Bookings", "take", "(LJesterUnion$Bookings;)V"⟩ prog_2_method_2_code 2 (Option.none : Option FieldType) ∈ gw := gk2 (List.mem_of_getElem? (i := 82) (by decide +kernel)) (by decide +kernel)
theorem q2_85 : Cond.methodLink "JesterUnion" 61 ⟨"JesterUnion", "admit", "(I)I"⟩ ∈ gw := gk2 (List.mem_of_getElem? (i := 85) (by decide +kernel)) (by decide +kernel)
theorem q2_87 : Cond.instanceMethod ⟨"JesterUnion", "admit", "(I)I"⟩ ∈ gw := gk2 (List.mem_of_getElem? (i := 87) (by decide +kernel)) (by decide +kernel)
theorem q2_88 : Cond.code ⟨"JesterUnion", "admit", "(I)I"⟩ prog_1_method_37_code 2 (Option.some FieldType.int) ∈ gw := gk2 (List.mem_of_getElem? (i := 88) (by decide +kernel)) (by decide +kernel)
theorem q2_89 : Cond.methodLink "JesterUnion" 243 ⟨"JesterUnion", "refuse", "(II)I"⟩ ∈ gw := gk2 (List.mem_of_getElem? (i := 89) (by decide +kernel)) (by decide +kernel)
theorem q2_91 : Cond.instanceMethod ⟨"JesterUnion", "refuse", "(II)I"⟩ ∈ gw := gk2 (List.mem_of_getElem? (i := 91) (by decide +kernel)) (by decide +kernel)
theorem q2_92 : Cond.code ⟨"JesterUnion", "refuse", "(II)I"⟩ prog_1_method_48_code 3 (Option.some FieldType.int) ∈ gw := gk2 (List.mem_of_getElem? (i := 92) (by decide +kernel)) (by decide +kernel)
theorem q2_93 : Cond.methodLink "JesterUnion" 290 ⟨"JesterUnion$Fools", "add", "(I)I"⟩ ∈ gw := gk2 (List.mem_of_getElem? (i := 93) (by decide +kernel)) (by decide +kernel)
theorem q2_94 : Cond.instanceMethod ⟨"JesterUnion$Fools", "add", "(I)I"⟩ ∈ gw := gk2 (List.mem_of_getElem? (i := 94) (by decide +kernel)) (by decide +kernel)
theorem q2_95 : Cond.selects "JesterUnion$Fools" ⟨"JesterUnion$Fools", "add", "(I)I"⟩ ⟨"JesterUnion$Fools", "add", "(I)I"⟩ ∈ gw := gk2 (List.mem_of_getElem? (i := 95) (by decide +kernel)) (by decide +kernel)
theorem q2_96 : Cond.code ⟨"JesterUnion$Fools", "add", "(I)I"⟩ prog_4_method_4_code 3 (Option.some FieldType.int) ∈ gw := gk2 (List.mem_of_getElem? (i := 96) (by decide +kernel)) (by decide +kernel)
theorem q2_97 : Cond.methodLink "JesterUnion" 65 ⟨"JesterUnion", "remember", "(I)I"⟩ ∈ gw := gk2 (List.mem_of_getElem? (i := 97) (by decide +kernel)) (by decide +kernel)
theorem q2_99 : Cond.instanceMethod ⟨"JesterUnion", "remember", "(I)I"⟩ ∈ gw := gk2 (List.mem_of_getElem? (i := 99) (by decide +kernel)) (by decide +kernel)
theorem q2_100 : Cond.code ⟨"JesterUnion", "remember", "(I)I"⟩ prog_1_method_47_code 2 (Option.some FieldType.int) ∈ gw := gk2 (List.mem_of_getElem? (i := 100) (by decide +kernel)) (by decide +kernel)
theorem q2_101 : Cond.methodLink "JesterUnion" 317 ⟨"JesterUnion$History", "keep", "(LJesterUnion$Court;)V"⟩ ∈ gw := gk2 (List.mem_of_getElem? (i := 101) (by decide +kernel)) (by decide +kernel)
theorem q2_102 : Cond.instanceMethod ⟨"JesterUnion$History", "keep", "(LJesterUnion$Court;)V"⟩ ∈ gw := gk2 (List.mem_of_getElem? (i := 102) (by decide +kernel)) (by decide +kernel)
theorem q2_103 : Cond.selects "JesterUnion$History" ⟨"JesterUnion$History", "keep", "(LJesterUnion$Court;)V"⟩ ⟨"JesterUnion$History", "keep", "(LJesterUnion$Court;)V"⟩ ∈ gw := gk2 (List.mem_of_getElem? (i := 103) (by decide +kernel)) (by decide +kernel)
theorem q2_104 : Cond.code ⟨"JesterUnion$History", "keep", "(LJesterUnion$Court;)V"⟩ prog_5_method_2_code 2 (Option.none : Option FieldType) ∈ gw := gk2 (List.mem_of_getElem? (i := 104) (by decide +kernel)) (by decide +kernel)
theorem q2_105 : Cond.methodLink "JesterUnion$History" 25 ⟨"JesterUnion$Court", "take", "(LJesterUnion$Court;)V"⟩ ∈ gw := gk2 (List.mem_of_getElem? (i := 105) (by decide +kernel)) (by decide +kernel)
theorem q2_106 : Cond.methodLink "JesterUnion$History" 29 ⟨"java/lang/Math", "min", "(II)I"⟩ ∈ gw := gk2 (List.mem_of_getElem? (i := 106) (by decide +kernel)) (by decide +kernel)
theorem q2_107 : Cond.methodLink "JesterUnionLaw" 18 ⟨"JesterUnion", "joke", "(I)I"⟩ ∈ gw := gk2 (List.mem_of_getElem? (i := 107) (by decide +kernel)) (by decide +kernel)
theorem q2_108 : Cond.instanceMethod ⟨"JesterUnion", "joke", "(I)I"⟩ ∈ gw := gk2 (List.mem_of_getElem? (i := 108) (by decide +kernel)) (by decide +kernel)
theorem q2_109 : Cond.selects "JesterUnion" ⟨"JesterUnion", "joke", "(I)I"⟩ ⟨"JesterUnion", "joke", "(I)I"⟩ ∈ gw := gk2 (List.mem_of_getElem? (i := 109) (by decide +kernel)) (by decide +kernel)
theorem q2_110 : Cond.code ⟨"JesterUnion", "joke", "(I)I"⟩ prog_1_method_3_code 2 (Option.some FieldType.int) ∈ gw := gk2 (List.mem_of_getElem? (i := 110) (by decide +kernel)) (by decide +kernel)
theorem q2_111 : Cond.methodLink "JesterUnion" 68 ⟨"JesterUnion", "invent", "(I)I"⟩ ∈ gw := gk2 (List.mem_of_getElem? (i := 111) (by decide +kernel)) (by decide +kernel)
theorem q2_113 : Cond.instanceMethod ⟨"JesterUnion", "invent", "(I)I"⟩ ∈ gw := gk2 (List.mem_of_getElem? (i := 113) (by decide +kernel)) (by decide +kernel)
theorem q2_114 : Cond.code ⟨"JesterUnion", "invent", "(I)I"⟩ prog_1_method_38_code 2 (Option.some FieldType.int) ∈ gw := gk2 (List.mem_of_getElem? (i := 114) (by decide +kernel)) (by decide +kernel)
theorem q2_115 : Cond.methodLink "JesterUnion" 293 ⟨"JesterUnion$Jokes", "add", "(I)I"⟩ ∈ gw := gk2 (List.mem_of_getElem? (i := 115) (by decide +kernel)) (by decide +kernel)
theorem q2_116 : Cond.instanceMethod ⟨"JesterUnion$Jokes", "add", "(I)I"⟩ ∈ gw := gk2 (List.mem_of_getElem? (i := 116) (by decide +kernel)) (by decide +kernel)
theorem q2_117 : Cond.selects "JesterUnion$Jokes" ⟨"JesterUnion$Jokes", "add", "(I)I"⟩ ⟨"JesterUnion$Jokes", "add", "(I)I"⟩ ∈ gw := gk2 (List.mem_of_getElem? (i := 117) (by decide +kernel)) (by decide +kernel)
theorem q2_118 : Cond.code ⟨"JesterUnion$Jokes", "add", "(I)I"⟩ prog_6_method_4_code 3 (Option.some FieldType.int) ∈ gw := gk2 (List.mem_of_getElem? (i := 118) (by decide +kernel)) (by decide +kernel)
theorem q2_119 : Cond.methodLink "JesterUnionLaw" 22 ⟨"JesterUnion", "patent", "(III)I"⟩ ∈ gw := gk2 (List.mem_of_getElem? (i := 119) (by decide +kernel)) (by decide +kernel)
theorem q2_120 : Cond.instanceMethod ⟨"JesterUnion", "patent", "(III)I"⟩ ∈ gw := gk2 (List.mem_of_getElem? (i := 120) (by decide +kernel)) (by decide +kernel)
theorem q2_121 : Cond.selects "JesterUnion" ⟨"JesterUnion", "patent", "(III)I"⟩ ⟨"JesterUnion", "patent", "(III)I"⟩ ∈ gw := gk2 (List.mem_of_getElem? (i := 121) (by decide +kernel)) (by decide +kernel)
theorem q2_122 : Cond.code ⟨"JesterUnion", "patent", "(III)I"⟩ prog_1_method_4_code 4 (Option.some FieldType.int) ∈ gw := gk2 (List.mem_of_getElem? (i := 122) (by decide +kernel)) (by decide +kernel)
theorem q2_123 : Cond.methodLink "JesterUnion" 71 ⟨"JesterUnion", "grant", "(III)I"⟩ ∈ gw := gk2 (List.mem_of_getElem? (i := 123) (by decide +kernel)) (by decide +kernel)
theorem q2_125 : Cond.instanceMethod ⟨"JesterUnion", "grant", "(III)I"⟩ ∈ gw := gk2 (List.mem_of_getElem? (i := 125) (by decide +kernel)) (by decide +kernel)
theorem q2_126 : Cond.code ⟨"JesterUnion", "grant", "(III)I"⟩ prog_1_method_39_code 5 (Option.some FieldType.int) ∈ gw := gk2 (List.mem_of_getElem? (i := 126) (by decide +kernel)) (by decide +kernel)
theorem q2_127 : Cond.methodLink "JesterUnion" 85 ⟨"JesterUnion$Fools", "has", "(I)Z"⟩ ∈ gw := gk2 (List.mem_of_getElem? (i := 127) (by decide +kernel)) (by decide +kernel)
theorem q2_128 : Cond.instanceMethod ⟨"JesterUnion$Fools", "has", "(I)Z"⟩ ∈ gw := gk2 (List.mem_of_getElem? (i := 128) (by decide +kernel)) (by decide +kernel)
theorem q2_129 : Cond.selects "JesterUnion$Fools" ⟨"JesterUnion$Fools", "has", "(I)Z"⟩ ⟨"JesterUnion$Fools", "has", "(I)Z"⟩ ∈ gw := gk2 (List.mem_of_getElem? (i := 129) (by decide +kernel)) (by decide +kernel)
theorem q2_130 : Cond.code ⟨"JesterUnion$Fools", "has", "(I)Z"⟩ prog_4_method_3_code 2 (Option.some FieldType.boolean) ∈ gw := gk2 (List.mem_of_getElem? (i := 130) (by decide +kernel)) (by decide +kernel)
theorem q2_131 : Cond.methodLink "JesterUnion" 130 ⟨"JesterUnion$Jokes", "has", "(I)Z"⟩ ∈ gw := gk2 (List.mem_of_getElem? (i := 131) (by decide +kernel)) (by decide +kernel)
theorem q2_132 : Cond.instanceMethod ⟨"JesterUnion$Jokes", "has", "(I)Z"⟩ ∈ gw := gk2 (List.mem_of_getElem? (i := 132) (by decide +kernel)) (by decide +kernel)
theorem q2_133 : Cond.selects "JesterUnion$Jokes" ⟨"JesterUnion$Jokes", "has", "(I)Z"⟩ ⟨"JesterUnion$Jokes", "has", "(I)Z"⟩ ∈ gw := gk2 (List.mem_of_getElem? (i := 133) (by decide +kernel)) (by decide +kernel)
theorem q2_134 : Cond.code ⟨"JesterUnion$Jokes", "has", "(I)Z"⟩ prog_6_method_3_code 2 (Option.some FieldType.boolean) ∈ gw := gk2 (List.mem_of_getElem? (i := 134) (by decide +kernel)) (by decide +kernel)
theorem q2_135 : Cond.methodLink "JesterUnion" 136 ⟨"JesterUnion$Court", "holds", "(I)Z"⟩ ∈ gw := gk2 (List.mem_of_getElem? (i := 135) (by decide +kernel)) (by decide +kernel)
theorem q2_136 : Cond.instanceMethod ⟨"JesterUnion$Court", "holds", "(I)Z"⟩ ∈ gw := gk2 (List.mem_of_getElem? (i := 136) (by decide +kernel)) (by decide +kernel)
theorem q2_137 : Cond.selects "JesterUnion$Court" ⟨"JesterUnion$Court", "holds", "(I)Z"⟩ ⟨"JesterUnion$Court", "holds", "(I)Z"⟩ ∈ gw := gk2 (List.mem_of_getElem? (i := 137) (by decide +kernel)) (by decide +kernel)
theorem q2_138 : Cond.code ⟨"JesterUnion$Court", "holds", "(I)Z"⟩ prog_3_method_3_code 2 (Option.some FieldType.boolean) ∈ gw := gk2 (List.mem_of_getElem? (i := 138) (by decide +kernel)) (by decide +kernel)
theorem q2_139 : Cond.methodLink "JesterUnion" 294 ⟨"JesterUnion$Court", "payUnion", "(II)I"⟩ ∈ gw := gk2 (List.mem_of_getElem? (i := 139) (by decide +kernel)) (by decide +kernel)
theorem q2_140 : Cond.instanceMethod ⟨"JesterUnion$Court", "payUnion", "(II)I"⟩ ∈ gw := gk2 (List.mem_of_getElem? (i := 140) (by decide +kernel)) (by decide +kernel)
theorem q2_141 : Cond.selects "JesterUnion$Court" ⟨"JesterUnion$Court", "payUnion", "(II)I"⟩ ⟨"JesterUnion$Court", "payUnion", "(II)I"⟩ ∈ gw := gk2 (List.mem_of_getElem? (i := 141) (by decide +kernel)) (by decide +kernel)
theorem q2_142 : Cond.code ⟨"JesterUnion$Court", "payUnion", "(II)I"⟩ prog_3_method_18_code 4 (Option.some FieldType.int) ∈ gw := gk2 (List.mem_of_getElem? (i := 142) (by decide +kernel)) (by decide +kernel)
theorem q2_143 : Cond.methodLink "JesterUnion$Court" 161 ⟨"java/lang/Math", "min", "(II)I"⟩ ∈ gw := gk2 (List.mem_of_getElem? (i := 143) (by decide +kernel)) (by decide +kernel)
theorem q2_144 : Cond.methodLink "JesterUnionLaw" 27 ⟨"JesterUnion", "insure", "(I)I"⟩ ∈ gw := gk2 (List.mem_of_getElem? (i := 144) (by decide +kernel)) (by decide +kernel)
theorem q2_145 : Cond.instanceMethod ⟨"JesterUnion", "insure", "(I)I"⟩ ∈ gw := gk2 (List.mem_of_getElem? (i := 145) (by decide +kernel)) (by decide +kernel)
theorem q2_146 : Cond.selects "JesterUnion" ⟨"JesterUnion", "insure", "(I)I"⟩ ⟨"JesterUnion", "insure", "(I)I"⟩ ∈ gw := gk2 (List.mem_of_getElem? (i := 146) (by decide +kernel)) (by decide +kernel)
theorem q2_147 : Cond.code ⟨"JesterUnion", "insure", "(I)I"⟩ prog_1_method_5_code 2 (Option.some FieldType.int) ∈ gw := gk2 (List.mem_of_getElem? (i := 147) (by decide +kernel)) (by decide +kernel)
theorem q2_148 : Cond.methodLink "JesterUnion" 75 ⟨"JesterUnion", "cover", "(I)I"⟩ ∈ gw := gk2 (List.mem_of_getElem? (i := 148) (by decide +kernel)) (by decide +kernel)
theorem q2_150 : Cond.instanceMethod ⟨"JesterUnion", "cover", "(I)I"⟩ ∈ gw := gk2 (List.mem_of_getElem? (i := 150) (by decide +kernel)) (by decide +kernel)
theorem q2_151 : Cond.code ⟨"JesterUnion", "cover", "(I)I"⟩ prog_1_method_40_code 2 (Option.some FieldType.int) ∈ gw := gk2 (List.mem_of_getElem? (i := 151) (by decide +kernel)) (by decide +kernel)
theorem q2_152 : Cond.methodLink "JesterUnionLaw" 31 ⟨"JesterUnion", "audit", "(I)I"⟩ ∈ gw := gk2 (List.mem_of_getElem? (i := 152) (by decide +kernel)) (by decide +kernel)
theorem q2_153 : Cond.instanceMethod ⟨"JesterUnion", "audit", "(I)I"⟩ ∈ gw := gk2 (List.mem_of_getElem? (i := 153) (by decide +kernel)) (by decide +kernel)
theorem q2_154 : Cond.selects "JesterUnion" ⟨"JesterUnion", "audit", "(I)I"⟩ ⟨"JesterUnion", "audit", "(I)I"⟩ ∈ gw := gk2 (List.mem_of_getElem? (i := 154) (by decide +kernel)) (by decide +kernel)
theorem q2_155 : Cond.code ⟨"JesterUnion", "audit", "(I)I"⟩ prog_1_method_6_code 2 (Option.some FieldType.int) ∈ gw := gk2 (List.mem_of_getElem? (i := 155) (by decide +kernel)) (by decide +kernel)
theorem q2_156 : Cond.methodLink "JesterUnion" 78 ⟨"JesterUnion", "collect", "(I)I"⟩ ∈ gw := gk2 (List.mem_of_getElem? (i := 156) (by decide +kernel)) (by decide +kernel)
theorem q2_158 : Cond.instanceMethod ⟨"JesterUnion", "collect", "(I)I"⟩ ∈ gw := gk2 (List.mem_of_getElem? (i := 158) (by decide +kernel)) (by decide +kernel)
theorem q2_159 : Cond.code ⟨"JesterUnion", "collect", "(I)I"⟩ prog_1_method_41_code 4 (Option.some FieldType.int) ∈ gw := gk2 (List.mem_of_getElem? (i := 159) (by decide +kernel)) (by decide +kernel)
theorem q2_160 : Cond.methodLink "JesterUnionLaw" 35 ⟨"JesterUnion", "foolOf", "(II)I"⟩ ∈ gw := gk2 (List.mem_of_getElem? (i := 160) (by decide +kernel)) (by decide +kernel)
theorem q2_161 : Cond.instanceMethod ⟨"JesterUnion", "foolOf", "(II)I"⟩ ∈ gw := gk2 (List.mem_of_getElem? (i := 161) (by decide +kernel)) (by decide +kernel)
theorem q2_162 : Cond.selects "JesterUnion" ⟨"JesterUnion", "foolOf", "(II)I"⟩ ⟨"JesterUnion", "foolOf", "(II)I"⟩ ∈ gw := gk2 (List.mem_of_getElem? (i := 162) (by decide +kernel)) (by decide +kernel)
theorem q2_163 : Cond.code ⟨"JesterUnion", "foolOf", "(II)I"⟩ prog_1_method_7_code 3 (Option.some FieldType.int) ∈ gw := gk2 (List.mem_of_getElem? (i := 163) (by decide +kernel)) (by decide +kernel)
theorem q2_164 : Cond.methodLink "JesterUnion" 104 ⟨"JesterUnion$Court", "patentsOf", "(I)I"⟩ ∈ gw := gk2 (List.mem_of_getElem? (i := 164) (by decide +kernel)) (by decide +kernel)
theorem q2_165 : Cond.instanceMethod ⟨"JesterUnion$Court", "patentsOf", "(I)I"⟩ ∈ gw := gk2 (List.mem_of_getElem? (i := 165) (by decide +kernel)) (by decide +kernel)
theorem q2_166 : Cond.selects "JesterUnion$Court" ⟨"JesterUnion$Court", "patentsOf", "(I)I"⟩ ⟨"JesterUnion$Court", "patentsOf", "(I)I"⟩ ∈ gw := gk2 (List.mem_of_getElem? (i := 166) (by decide +kernel)) (by decide +kernel)
theorem q2_167 : Cond.code ⟨"JesterUnion$Court", "patentsOf", "(I)I"⟩ prog_3_method_6_code 4 (Option.some FieldType.int) ∈ gw := gk2 (List.mem_of_getElem? (i := 167) (by decide +kernel)) (by decide +kernel)
theorem q2_168 : Cond.methodLink "JesterUnion$Court" 72 ⟨"JesterUnion$Court", "holds", "(I)Z"⟩ ∈ gw := gk2 (List.mem_of_getElem? (i := 168) (by decide +kernel)) (by decide +kernel)
theorem q2_169 : Cond.methodLink "JesterUnion" 116 ⟨"JesterUnion$Bookings", "with", "([II)I"⟩ ∈ gw := gk2 (List.mem_of_getElem? (i := 169) (by decide +kernel)) (by decide +kernel)
theorem q2_170 : Cond.instanceMethod ⟨"JesterUnion$Bookings", "with", "([II)I"⟩ ∈ gw := gk2 (List.mem_of_getElem? (i := 170) (by decide +kernel)) (by decide +kernel)
theorem q2_171 : Cond.selects "JesterUnion$Bookings" ⟨"JesterUnion$Bookings", "with", "([II)I"⟩ ⟨"JesterUnion$Bookings", "with", "([II)I"⟩ ∈ gw := gk2 (List.mem_of_getElem? (i := 171) (by decide +kernel)) (by decide +kernel)
theorem q2_172 : Cond.code ⟨"JesterUnion$Bookings", "with", "([II)I"⟩ prog_2_method_3_code 5 (Option.some FieldType.int) ∈ gw := gk2 (List.mem_of_getElem? (i := 172) (by decide +kernel)) (by decide +kernel)
theorem q2_173 : Cond.methodLink "JesterUnionLaw" 40 ⟨"JesterUnion", "jokeOf", "(II)I"⟩ ∈ gw := gk2 (List.mem_of_getElem? (i := 173) (by decide +kernel)) (by decide +kernel)
theorem q2_174 : Cond.instanceMethod ⟨"JesterUnion", "jokeOf", "(II)I"⟩ ∈ gw := gk2 (List.mem_of_getElem? (i := 174) (by decide +kernel)) (by decide +kernel)
theorem q2_175 : Cond.selects "JesterUnion" ⟨"JesterUnion", "jokeOf", "(II)I"⟩ ⟨"JesterUnion", "jokeOf", "(II)I"⟩ ∈ gw := gk2 (List.mem_of_getElem? (i := 175) (by decide +kernel)) (by decide +kernel)
theorem q2_176 : Cond.code ⟨"JesterUnion", "jokeOf", "(II)I"⟩ prog_1_method_8_code 3 (Option.some FieldType.int) ∈ gw := gk2 (List.mem_of_getElem? (i := 176) (by decide +kernel)) (by decide +kernel)
theorem q2_177 : Cond.methodLink "JesterUnion" 148 ⟨"JesterUnion$Jokes", "tellings", "(I)I"⟩ ∈ gw := gk2 (List.mem_of_getElem? (i := 177) (by decide +kernel)) (by decide +kernel)
theorem q2_178 : Cond.instanceMethod ⟨"JesterUnion$Jokes", "tellings", "(I)I"⟩ ∈ gw := gk2 (List.mem_of_getElem? (i := 178) (by decide +kernel)) (by decide +kernel)
theorem q2_179 : Cond.selects "JesterUnion$Jokes" ⟨"JesterUnion$Jokes", "tellings", "(I)I"⟩ ⟨"JesterUnion$Jokes", "tellings", "(I)I"⟩ ∈ gw := gk2 (List.mem_of_getElem? (i := 179) (by decide +kernel)) (by decide +kernel)
theorem q2_180 : Cond.code ⟨"JesterUnion$Jokes", "tellings", "(I)I"⟩ prog_6_method_7_code 4 (Option.some FieldType.int) ∈ gw := gk2 (List.mem_of_getElem? (i := 180) (by decide +kernel)) (by decide +kernel)
theorem q2_181 : Cond.methodLink "JesterUnion$Jokes" 32 ⟨"JesterUnion$Jokes", "toldAt", "(II)I"⟩ ∈ gw := gk2 (List.mem_of_getElem? (i := 181) (by decide +kernel)) (by decide +kernel)
theorem q2_182 : Cond.instanceMethod ⟨"JesterUnion$Jokes", "toldAt", "(II)I"⟩ ∈ gw := gk2 (List.mem_of_getElem? (i := 182) (by decide +kernel)) (by decide +kernel)
theorem q2_183 : Cond.selects "JesterUnion$Jokes" ⟨"JesterUnion$Jokes", "toldAt", "(II)I"⟩ ⟨"JesterUnion$Jokes", "toldAt", "(II)I"⟩ ∈ gw := gk2 (List.mem_of_getElem? (i := 183) (by decide +kernel)) (by decide +kernel)
theorem q2_184 : Cond.code ⟨"JesterUnion$Jokes", "toldAt", "(II)I"⟩ prog_6_method_5_code 3 (Option.some FieldType.int) ∈ gw := gk2 (List.mem_of_getElem? (i := 184) (by decide +kernel)) (by decide +kernel)
theorem q2_185 : Cond.methodLink "JesterUnionLaw" 44 ⟨"JesterUnion", "exempt", "(II)I"⟩ ∈ gw := gk2 (List.mem_of_getElem? (i := 185) (by decide +kernel)) (by decide +kernel)
theorem q2_186 : Cond.instanceMethod ⟨"JesterUnion", "exempt", "(II)I"⟩ ∈ gw := gk2 (List.mem_of_getElem? (i := 186) (by decide +kernel)) (by decide +kernel)
theorem q2_187 : Cond.selects "JesterUnion" ⟨"JesterUnion", "exempt", "(II)I"⟩ ⟨"JesterUnion", "exempt", "(II)I"⟩ ∈ gw := gk2 (List.mem_of_getElem? (i := 187) (by decide +kernel)) (by decide +kernel)
theorem q2_188 : Cond.code ⟨"JesterUnion", "exempt", "(II)I"⟩ prog_1_method_9_code 3 (Option.some FieldType.int) ∈ gw := gk2 (List.mem_of_getElem? (i := 188) (by decide +kernel)) (by decide +kernel)
theorem q2_189 : Cond.methodLink "JesterUnion" 154 ⟨"JesterUnion", "setExempt", "(II)I"⟩ ∈ gw := gk2 (List.mem_of_getElem? (i := 189) (by decide +kernel)) (by decide +kernel)
theorem q2_191 : Cond.instanceMethod ⟨"JesterUnion", "setExempt", "(II)I"⟩ ∈ gw := gk2 (List.mem_of_getElem? (i := 191) (by decide +kernel)) (by decide +kernel)
theorem q2_192 : Cond.code ⟨"JesterUnion", "setExempt", "(II)I"⟩ prog_1_method_42_code 3 (Option.some FieldType.int) ∈ gw := gk2 (List.mem_of_getElem? (i := 192) (by decide +kernel)) (by decide +kernel)
theorem q2_193 : Cond.methodLink "JesterUnion" 158 ⟨"JesterUnion", "isThrone", "(I)Z"⟩ ∈ gw := gk2 (List.mem_of_getElem? (i := 193) (by decide +kernel)) (by decide +kernel)
theorem q2_194 : Cond.static ⟨"JesterUnion", "isThrone", "(I)Z"⟩ ∈ gw := gk2 (List.mem_of_getElem? (i := 194) (by decide +kernel)) (by decide +kernel)
theorem q2_195 : Cond.code ⟨"JesterUnion", "isThrone", "(I)Z"⟩ prog_1_method_53_code 1 (Option.some FieldType.boolean) ∈ gw := gk2 (List.mem_of_getElem? (i := 195) (by decide +kernel)) (by decide +kernel)
theorem q2_196 : Cond.methodLink "JesterUnion" 210 ⟨"JesterUnion", "sum", "([I)I"⟩ ∈ gw := gk2 (List.mem_of_getElem? (i := 196) (by decide +kernel)) (by decide +kernel)
theorem q2_197 : Cond.static ⟨"JesterUnion", "sum", "([I)I"⟩ ∈ gw := gk2 (List.mem_of_getElem? (i := 197) (by decide +kernel)) (by decide +kernel)
theorem q2_198 : Cond.code ⟨"JesterUnion", "sum", "([I)I"⟩ prog_1_method_54_code 6 (Option.some FieldType.int) ∈ gw := gk2 (List.mem_of_getElem? (i := 198) (by decide +kernel)) (by decide +kernel)
theorem q2_199 : Cond.methodLink "JesterUnionLaw" 48 ⟨"JesterUnion", "throneOf", "(II)I"⟩ ∈ gw := gk2 (List.mem_of_getElem? (i := 199) (by decide +kernel)) (by decide +kernel)
theorem q2_200 : Cond.instanceMethod ⟨"JesterUnion", "throneOf", "(II)I"⟩ ∈ gw := gk2 (List.mem_of_getElem? (i := 200) (by decide +kernel)) (by decide +kernel)
theorem q2_201 : Cond.selects "JesterUnion" ⟨"JesterUnion", "throneOf", "(II)I"⟩ ⟨"JesterUnion", "throneOf", "(II)I"⟩ ∈ gw := gk2 (List.mem_of_getElem? (i := 201) (by decide +kernel)) (by decide +kernel)
theorem q2_202 : Cond.code ⟨"JesterUnion", "throneOf", "(II)I"⟩ prog_1_method_10_code 3 (Option.some FieldType.int) ∈ gw := gk2 (List.mem_of_getElem? (i := 202) (by decide +kernel)) (by decide +kernel)
theorem q2_203 : Cond.methodLink "JesterUnion" 164 ⟨"JesterUnion$Jokes", "tellingsAt", "(I)I"⟩ ∈ gw := gk2 (List.mem_of_getElem? (i := 203) (by decide +kernel)) (by decide +kernel)
theorem q2_204 : Cond.instanceMethod ⟨"JesterUnion$Jokes", "tellingsAt", "(I)I"⟩ ∈ gw := gk2 (List.mem_of_getElem? (i := 204) (by decide +kernel)) (by decide +kernel)
theorem q2_205 : Cond.selects "JesterUnion$Jokes" ⟨"JesterUnion$Jokes", "tellingsAt", "(I)I"⟩ ⟨"JesterUnion$Jokes", "tellingsAt", "(I)I"⟩ ∈ gw := gk2 (List.mem_of_getElem? (i := 205) (by decide +kernel)) (by decide +kernel)
theorem q2_206 : Cond.code ⟨"JesterUnion$Jokes", "tellingsAt", "(I)I"⟩ prog_6_method_8_code 4 (Option.some FieldType.int) ∈ gw := gk2 (List.mem_of_getElem? (i := 206) (by decide +kernel)) (by decide +kernel)
theorem q2_207 : Cond.methodLink "JesterUnionLaw" 52 ⟨"JesterUnion", "told", "(II)I"⟩ ∈ gw := gk2 (List.mem_of_getElem? (i := 207) (by decide +kernel)) (by decide +kernel)
theorem q2_208 : Cond.instanceMethod ⟨"JesterUnion", "told", "(II)I"⟩ ∈ gw := gk2 (List.mem_of_getElem? (i := 208) (by decide +kernel)) (by decide +kernel)
theorem q2_209 : Cond.selects "JesterUnion" ⟨"JesterUnion", "told", "(II)I"⟩ ⟨"JesterUnion", "told", "(II)I"⟩ ∈ gw := gk2 (List.mem_of_getElem? (i := 209) (by decide +kernel)) (by decide +kernel)
theorem q2_210 : Cond.code ⟨"JesterUnion", "told", "(II)I"⟩ prog_1_method_11_code 3 (Option.some FieldType.int) ∈ gw := gk2 (List.mem_of_getElem? (i := 210) (by decide +kernel)) (by decide +kernel)
theorem q2_211 : Cond.methodLink "JesterUnion" 173 ⟨"JesterUnion$Jokes", "toldAt", "(II)I"⟩ ∈ gw := gk2 (List.mem_of_getElem? (i := 211) (by decide +kernel)) (by decide +kernel)
theorem q2_212 : Cond.methodLink "JesterUnionLaw" 56 ⟨"JesterUnion", "book", "(IIII)I"⟩ ∈ gw := gk2 (List.mem_of_getElem? (i := 212) (by decide +kernel)) (by decide +kernel)
theorem q2_213 : Cond.instanceMethod ⟨"JesterUnion", "book", "(IIII)I"⟩ ∈ gw := gk2 (List.mem_of_getElem? (i := 213) (by decide +kernel)) (by decide +kernel)
theorem q2_214 : Cond.selects "JesterUnion" ⟨"JesterUnion", "book", "(IIII)I"⟩ ⟨"JesterUnion", "book", "(IIII)I"⟩ ∈ gw := gk2 (List.mem_of_getElem? (i := 214) (by decide +kernel)) (by decide +kernel)
theorem q2_215 : Cond.code ⟨"JesterUnion", "book", "(IIII)I"⟩ prog_1_method_12_code 5 (Option.some FieldType.int) ∈ gw := gk2 (List.mem_of_getElem? (i := 215) (by decide +kernel)) (by decide +kernel)
theorem q2_216 : Cond.methodLink "JesterUnion" 176 ⟨"JesterUnion", "reserve", "(IIII)I"⟩ ∈ gw := gk2 (List.mem_of_getElem? (i := 216) (by decide +kernel)) (by decide +kernel)
theorem q2_218 : Cond.instanceMethod ⟨"JesterUnion", "reserve", "(IIII)I"⟩ ∈ gw := gk2 (List.mem_of_getElem? (i := 218) (by decide +kernel)) (by decide +kernel)
theorem q2_219 : Cond.code ⟨"JesterUnion", "reserve", "(IIII)I"⟩ prog_1_method_43_code 7 (Option.some FieldType.int) ∈ gw := gk2 (List.mem_of_getElem? (i := 219) (by decide +kernel)) (by decide +kernel)
theorem q2_220 : Cond.methodLink "JesterUnion" 297 ⟨"JesterUnion$Court", "isBarred", "(II)Z"⟩ ∈ gw := gk2 (List.mem_of_getElem? (i := 220) (by decide +kernel)) (by decide +kernel)
theorem q2_221 : Cond.instanceMethod ⟨"JesterUnion$Court", "isBarred", "(II)Z"⟩ ∈ gw := gk2 (List.mem_of_getElem? (i := 221) (by decide +kernel)) (by decide +kernel)
theorem q2_222 : Cond.selects "JesterUnion$Court" ⟨"JesterUnion$Court", "isBarred", "(II)Z"⟩ ⟨"JesterUnion$Court", "isBarred", "(II)Z"⟩ ∈ gw := gk2 (List.mem_of_getElem? (i := 222) (by decide +kernel)) (by decide +kernel)
theorem q2_223 : Cond.code ⟨"JesterUnion$Court", "isBarred", "(II)Z"⟩ prog_3_method_4_code 3 (Option.some FieldType.boolean) ∈ gw := gk2 (List.mem_of_getElem? (i := 223) (by decide +kernel)) (by decide +kernel)
theorem q2_224 : Cond.methodLink "JesterUnion" 301 ⟨"JesterUnion$Bookings", "jokeOfFoolAt", "(II)I"⟩ ∈ gw := gk2 (List.mem_of_getElem? (i := 224) (by decide +kernel)) (by decide +kernel)
theorem q2_225 : Cond.instanceMethod ⟨"JesterUnion$Bookings", "jokeOfFoolAt", "(II)I"⟩ ∈ gw := gk2 (List.mem_of_getElem? (i := 225) (by decide +kernel)) (by decide +kernel)
theorem q2_226 : Cond.selects "JesterUnion$Bookings" ⟨"JesterUnion$Bookings", "jokeOfFoolAt", "(II)I"⟩ ⟨"JesterUnion$Bookings", "jokeOfFoolAt", "(II)I"⟩ ∈ gw := gk2 (List.mem_of_getElem? (i := 226) (by decide +kernel)) (by decide +kernel)
theorem q2_227 : Cond.code ⟨"JesterUnion$Bookings", "jokeOfFoolAt", "(II)I"⟩ prog_2_method_4_code 4 (Option.some FieldType.int) ∈ gw := gk2 (List.mem_of_getElem? (i := 227) (by decide +kernel)) (by decide +kernel)
theorem q2_228 : Cond.methodLink "JesterUnion" 304 ⟨"JesterUnion$Court", "placeFor", "(III)I"⟩ ∈ gw := gk2 (List.mem_of_getElem? (i := 228) (by decide +kernel)) (by decide +kernel)
theorem q2_229 : Cond.instanceMethod ⟨"JesterUnion$Court", "placeFor", "(III)I"⟩ ∈ gw := gk2 (List.mem_of_getElem? (i := 229) (by decide +kernel)) (by decide +kernel)
theorem q2_230 : Cond.selects "JesterUnion$Court" ⟨"JesterUnion$Court", "placeFor", "(III)I"⟩ ⟨"JesterUnion$Court", "placeFor", "(III)I"⟩ ∈ gw := gk2 (List.mem_of_getElem? (i := 230) (by decide +kernel)) (by decide +kernel)
theorem q2_231 : Cond.code ⟨"JesterUnion$Court", "placeFor", "(III)I"⟩ prog_3_method_14_code 5 (Option.some FieldType.int) ∈ gw := gk2 (List.mem_of_getElem? (i := 231) (by decide +kernel)) (by decide +kernel)
theorem q2_232 : Cond.methodLink "JesterUnion$Court" 112 ⟨"JesterUnion$Court", "isAhead", "(IIII)Z"⟩ ∈ gw := gk2 (List.mem_of_getElem? (i := 232) (by decide +kernel)) (by decide +kernel)
theorem q2_234 : Cond.instanceMethod ⟨"JesterUnion$Court", "isAhead", "(IIII)Z"⟩ ∈ gw := gk2 (List.mem_of_getElem? (i := 234) (by decide +kernel)) (by decide +kernel)
theorem q2_235 : Cond.code ⟨"JesterUnion$Court", "isAhead", "(IIII)Z"⟩ prog_3_method_15_code 6 (Option.some FieldType.boolean) ∈ gw := gk2 (List.mem_of_getElem? (i := 235) (by decide +kernel)) (by decide +kernel)
theorem q2_236 : Cond.methodLink "JesterUnion" 307 ⟨"JesterUnion$Bookings", "insert", "(IIIII)V"⟩ ∈ gw := gk2 (List.mem_of_getElem? (i := 236) (by decide +kernel)) (by decide +kernel)
theorem q2_237 : Cond.instanceMethod ⟨"JesterUnion$Bookings", "insert", "(IIIII)V"⟩ ∈ gw := gk2 (List.mem_of_getElem? (i := 237) (by decide +kernel)) (by decide +kernel)
theorem q2_238 : Cond.selects "JesterUnion$Bookings" ⟨"JesterUnion$Bookings", "insert", "(IIIII)V"⟩ ⟨"JesterUnion$Bookings", "insert", "(IIIII)V"⟩ ∈ gw := gk2 (List.mem_of_getElem? (i := 238) (by decide +kernel)) (by decide +kernel)
theorem q2_239 : Cond.code ⟨"JesterUnion$Bookings", "insert", "(IIIII)V"⟩ prog_2_method_5_code 7 (Option.none : Option FieldType) ∈ gw := gk2 (List.mem_of_getElem? (i := 239) (by decide +kernel)) (by decide +kernel)
theorem q3_0 : Cond.methodLink "JesterUnion$Bookings" 32 ⟨"JesterUnion$Bookings", "move", "(II)V"⟩ ∈ gw := gk3 (List.mem_of_getElem? (i := 0) (by decide +kernel)) (by decide +kernel)
theorem q3_2 : Cond.instanceMethod ⟨"JesterUnion$Bookings", "move", "(II)V"⟩ ∈ gw := gk3 (List.mem_of_getElem? (i := 2) (by decide +kernel)) (by decide +kernel)
theorem q3_3 : Cond.code ⟨"JesterUnion$Bookings", "move", "(II)V"⟩ prog_2_method_7_code 3 (Option.none : Option FieldType) ∈ gw := gk3 (List.mem_of_getElem? (i := 3) (by decide +kernel)) (by decide +kernel)
theorem q3_4 : Cond.methodLink "JesterUnionLaw" 61 ⟨"JesterUnion", "next", "()I"⟩ ∈ gw := gk3 (List.mem_of_getElem? (i := 4) (by decide +kernel)) (by decide +kernel)
theorem q3_5 : Cond.instanceMethod ⟨"JesterUnion", "next", "()I"⟩ ∈ gw := gk3 (List.mem_of_getElem? (i := 5) (by decide +kernel)) (by decide +kernel)
theorem q3_6 : Cond.selects "JesterUnion" ⟨"JesterUnion", "next", "()I"⟩ ⟨"JesterUnion", "next", "()I"⟩ ∈ gw := gk3 (List.mem_of_getElem? (i := 6) (by decide +kernel)) (by decide +kernel)
theorem q3_7 : Cond.code ⟨"JesterUnion", "next", "()I"⟩ prog_1_method_13_code 1 (Option.some FieldType.int) ∈ gw := gk3 (List.mem_of_getElem? (i := 7) (by decide +kernel)) (by decide +kernel)
theorem q3_8 : Cond.methodLink "JesterUnion" 180 ⟨"JesterUnion", "carryNextOut", "()I"⟩ ∈ gw := gk3 (List.mem_of_getElem? (i := 8) (by decide +kernel)) (by decide +kernel)
theorem q3_10 : Cond.instanceMethod ⟨"JesterUnion", "carryNextOut", "()I"⟩ ∈ gw := gk3 (List.mem_of_getElem? (i := 10) (by decide +kernel)) (by decide +kernel)
theorem q3_11 : Cond.code ⟨"JesterUnion", "carryNextOut", "()I"⟩ prog_1_method_44_code 1 (Option.some FieldType.int) ∈ gw := gk3 (List.mem_of_getElem? (i := 11) (by decide +kernel)) (by decide +kernel)
theorem q3_12 : Cond.methodLink "JesterUnion" 207 ⟨"JesterUnion$Court", "carryFirstOut", "()I"⟩ ∈ gw := gk3 (List.mem_of_getElem? (i := 12) (by decide +kernel)) (by decide +kernel)
theorem q3_13 : Cond.instanceMethod ⟨"JesterUnion$Court", "carryFirstOut", "()I"⟩ ∈ gw := gk3 (List.mem_of_getElem? (i := 13) (by decide +kernel)) (by decide +kernel)
theorem q3_14 : Cond.selects "JesterUnion$Court" ⟨"JesterUnion$Court", "carryFirstOut", "()I"⟩ ⟨"JesterUnion$Court", "carryFirstOut", "()I"⟩ ∈ gw := gk3 (List.mem_of_getElem? (i := 14) (by decide +kernel)) (by decide +kernel)
theorem q3_15 : Cond.code ⟨"JesterUnion$Court", "carryFirstOut", "()I"⟩ prog_3_method_16_code 4 (Option.some FieldType.int) ∈ gw := gk3 (List.mem_of_getElem? (i := 15) (by decide +kernel)) (by decide +kernel)
theorem q3_16 : Cond.methodLink "JesterUnion$Court" 127 ⟨"JesterUnion$Bookings", "removeFirst", "()V"⟩ ∈ gw := gk3 (List.mem_of_getElem? (i := 16) (by decide +kernel)) (by decide +kernel)
theorem q3_17 : Cond.instanceMethod ⟨"JesterUnion$Bookings", "removeFirst", "()V"⟩ ∈ gw := gk3 (List.mem_of_getElem? (i := 17) (by decide +kernel)) (by decide +kernel)
theorem q3_18 : Cond.selects "JesterUnion$Bookings" ⟨"JesterUnion$Bookings", "removeFirst", "()V"⟩ ⟨"JesterUnion$Bookings", "removeFirst", "()V"⟩ ∈ gw := gk3 (List.mem_of_getElem? (i := 18) (by decide +kernel)) (by decide +kernel)
theorem q3_19 : Cond.code ⟨"JesterUnion$Bookings", "removeFirst", "()V"⟩ prog_2_method_6_code 2 (Option.none : Option FieldType) ∈ gw := gk3 (List.mem_of_getElem? (i := 19) (by decide +kernel)) (by decide +kernel)
theorem q3_20 : Cond.methodLink "JesterUnion$Court" 100 ⟨"JesterUnion$Court", "isBarred", "(II)Z"⟩ ∈ gw := gk3 (List.mem_of_getElem? (i := 20) (by decide +kernel)) (by decide +kernel)
theorem q3_21 : Cond.methodLink "JesterUnion$Court" 130 ⟨"JesterUnion$Court", "payFine", "(II)V"⟩ ∈ gw := gk3 (List.mem_of_getElem? (i := 21) (by decide +kernel)) (by decide +kernel)
theorem q3_23 : Cond.instanceMethod ⟨"JesterUnion$Court", "payFine", "(II)V"⟩ ∈ gw := gk3 (List.mem_of_getElem? (i := 23) (by decide +kernel)) (by decide +kernel)
theorem q3_24 : Cond.code ⟨"JesterUnion$Court", "payFine", "(II)V"⟩ prog_3_method_19_code 4 (Option.none : Option FieldType) ∈ gw := gk3 (List.mem_of_getElem? (i := 24) (by decide +kernel)) (by decide +kernel)
theorem q3_25 : Cond.methodLink "JesterUnion$Court" 143 ⟨"JesterUnion$Court", "gain", "(II)V"⟩ ∈ gw := gk3 (List.mem_of_getElem? (i := 25) (by decide +kernel)) (by decide +kernel)
theorem q3_27 : Cond.instanceMethod ⟨"JesterUnion$Court", "gain", "(II)V"⟩ ∈ gw := gk3 (List.mem_of_getElem? (i := 27) (by decide +kernel)) (by decide +kernel)
theorem q3_28 : Cond.code ⟨"JesterUnion$Court", "gain", "(II)V"⟩ prog_3_method_20_code 4 (Option.none : Option FieldType) ∈ gw := gk3 (List.mem_of_getElem? (i := 28) (by decide +kernel)) (by decide +kernel)
theorem q3_29 : Cond.methodLink "JesterUnion$Court" 134 ⟨"JesterUnion$Court", "perform", "(III)I"⟩ ∈ gw := gk3 (List.mem_of_getElem? (i := 29) (by decide +kernel)) (by decide +kernel)
theorem q3_31 : Cond.instanceMethod ⟨"JesterUnion$Court", "perform", "(III)I"⟩ ∈ gw := gk3 (List.mem_of_getElem? (i := 31) (by decide +kernel)) (by decide +kernel)
theorem q3_32 : Cond.code ⟨"JesterUnion$Court", "perform", "(III)I"⟩ prog_3_method_17_code 5 (Option.some FieldType.int) ∈ gw := gk3 (List.mem_of_getElem? (i := 32) (by decide +kernel)) (by decide +kernel)
theorem q3_33 : Cond.methodLink "JesterUnion$Court" 104 ⟨"JesterUnion$Court", "laughs", "(III)I"⟩ ∈ gw := gk3 (List.mem_of_getElem? (i := 33) (by decide +kernel)) (by decide +kernel)
theorem q3_35 : Cond.instanceMethod ⟨"JesterUnion$Court", "laughs", "(III)I"⟩ ∈ gw := gk3 (List.mem_of_getElem? (i := 35) (by decide +kernel)) (by decide +kernel)
theorem q3_36 : Cond.code ⟨"JesterUnion$Court", "laughs", "(III)I"⟩ prog_3_method_10_code 5 (Option.some FieldType.int) ∈ gw := gk3 (List.mem_of_getElem? (i := 36) (by decide +kernel)) (by decide +kernel)
theorem q3_37 : Cond.methodLink "JesterUnion$Court" 85 ⟨"JesterUnion$Jokes", "toldAt", "(II)I"⟩ ∈ gw := gk3 (List.mem_of_getElem? (i := 37) (by decide +kernel)) (by decide +kernel)
theorem q3_38 : Cond.methodLink "JesterUnion$Court" 95 ⟨"java/lang/Math", "max", "(II)I"⟩ ∈ gw := gk3 (List.mem_of_getElem? (i := 38) (by decide +kernel)) (by decide +kernel)
theorem q3_39 : Cond.static ⟨"java/lang/Math", "max", "(II)I"⟩ ∈ gw := gk3 (List.mem_of_getElem? (i := 39) (by decide +kernel)) (by decide +kernel)
theorem q3_40 : Cond.code ⟨"java/lang/Math", "max", "(II)I"⟩ prog_13_method_65_code 2 (Option.some FieldType.int) ∈ gw := gk3 (List.mem_of_getElem? (i := 40) (by decide +kernel)) (by decide +kernel)
theorem q3_41 : Cond.methodLink "JesterUnion$Court" 137 ⟨"JesterUnion$Jokes", "addTelling", "(II)V"⟩ ∈ gw := gk3 (List.mem_of_getElem? (i := 41) (by decide +kernel)) (by decide +kernel)
theorem q3_42 : Cond.instanceMethod ⟨"JesterUnion$Jokes", "addTelling", "(II)V"⟩ ∈ gw := gk3 (List.mem_of_getElem? (i := 42) (by decide +kernel)) (by decide +kernel)
theorem q3_43 : Cond.selects "JesterUnion$Jokes" ⟨"JesterUnion$Jokes", "addTelling", "(II)V"⟩ ⟨"JesterUnion$Jokes", "addTelling", "(II)V"⟩ ∈ gw := gk3 (List.mem_of_getElem? (i := 43) (by decide +kernel)) (by decide +kernel)
theorem q3_44 : Cond.code ⟨"JesterUnion$Jokes", "addTelling", "(II)V"⟩ prog_6_method_6_code 3 (Option.none : Option FieldType) ∈ gw := gk3 (List.mem_of_getElem? (i := 44) (by decide +kernel)) (by decide +kernel)
theorem q3_45 : Cond.methodLink "JesterUnion$Court" 155 ⟨"JesterUnion$Court", "payUnion", "(II)I"⟩ ∈ gw := gk3 (List.mem_of_getElem? (i := 45) (by decide +kernel)) (by decide +kernel)
theorem q3_46 : Cond.methodLink "JesterUnionLaw" 66 ⟨"JesterUnion", "pass", "(I)I"⟩ ∈ gw := gk3 (List.mem_of_getElem? (i := 46) (by decide +kernel)) (by decide +kernel)
theorem q3_47 : Cond.instanceMethod ⟨"JesterUnion", "pass", "(I)I"⟩ ∈ gw := gk3 (List.mem_of_getElem? (i := 47) (by decide +kernel)) (by decide +kernel)
theorem q3_48 : Cond.selects "JesterUnion" ⟨"JesterUnion", "pass", "(I)I"⟩ ⟨"JesterUnion", "pass", "(I)I"⟩ ∈ gw := gk3 (List.mem_of_getElem? (i := 48) (by decide +kernel)) (by decide +kernel)
theorem q3_49 : Cond.code ⟨"JesterUnion", "pass", "(I)I"⟩ prog_1_method_14_code 2 (Option.some FieldType.int) ∈ gw := gk3 (List.mem_of_getElem? (i := 49) (by decide +kernel)) (by decide +kernel)
theorem q3_50 : Cond.methodLink "JesterUnion" 184 ⟨"JesterUnion", "elapse", "(I)I"⟩ ∈ gw := gk3 (List.mem_of_getElem? (i := 50) (by decide +kernel)) (by decide +kernel)
theorem q3_52 : Cond.instanceMethod ⟨"JesterUnion", "elapse", "(I)I"⟩ ∈ gw := gk3 (List.mem_of_getElem? (i := 52) (by decide +kernel)) (by decide +kernel)
theorem q3_53 : Cond.code ⟨"JesterUnion", "elapse", "(I)I"⟩ prog_1_method_45_code 3 (Option.some FieldType.int) ∈ gw := gk3 (List.mem_of_getElem? (i := 53) (by decide +kernel)) (by decide +kernel)
theorem q3_54 : Cond.methodLink "JesterUnion" 271 ⟨"JesterUnion$Court", "patents", "()I"⟩ ∈ gw := gk3 (List.mem_of_getElem? (i := 54) (by decide +kernel)) (by decide +kernel)
theorem q3_55 : Cond.instanceMethod ⟨"JesterUnion$Court", "patents", "()I"⟩ ∈ gw := gk3 (List.mem_of_getElem? (i := 55) (by decide +kernel)) (by decide +kernel)
theorem q3_56 : Cond.selects "JesterUnion$Court" ⟨"JesterUnion$Court", "patents", "()I"⟩ ⟨"JesterUnion$Court", "patents", "()I"⟩ ∈ gw := gk3 (List.mem_of_getElem? (i := 56) (by decide +kernel)) (by decide +kernel)
theorem q3_57 : Cond.code ⟨"JesterUnion$Court", "patents", "()I"⟩ prog_3_method_5_code 3 (Option.some FieldType.int) ∈ gw := gk3 (List.mem_of_getElem? (i := 57) (by decide +kernel)) (by decide +kernel)
theorem q3_58 : Cond.methodLink "JesterUnionLaw" 70 ⟨"JesterUnion", "booking", "(II)I"⟩ ∈ gw := gk3 (List.mem_of_getElem? (i := 58) (by decide +kernel)) (by decide +kernel)
theorem q3_59 : Cond.instanceMethod ⟨"JesterUnion", "booking", "(II)I"⟩ ∈ gw := gk3 (List.mem_of_getElem? (i := 59) (by decide +kernel)) (by decide +kernel)
theorem q3_60 : Cond.selects "JesterUnion" ⟨"JesterUnion", "booking", "(II)I"⟩ ⟨"JesterUnion", "booking", "(II)I"⟩ ∈ gw := gk3 (List.mem_of_getElem? (i := 60) (by decide +kernel)) (by decide +kernel)
theorem q3_61 : Cond.code ⟨"JesterUnion", "booking", "(II)I"⟩ prog_1_method_15_code 3 (Option.some FieldType.int) ∈ gw := gk3 (List.mem_of_getElem? (i := 61) (by decide +kernel)) (by decide +kernel)
theorem q3_62 : Cond.methodLink "JesterUnionLaw" 74 ⟨"JesterUnion", "would", "(III)I"⟩ ∈ gw := gk3 (List.mem_of_getElem? (i := 62) (by decide +kernel)) (by decide +kernel)
theorem q3_63 : Cond.instanceMethod ⟨"JesterUnion", "would", "(III)I"⟩ ∈ gw := gk3 (List.mem_of_getElem? (i := 63) (by decide +kernel)) (by decide +kernel)
theorem q3_64 : Cond.selects "JesterUnion" ⟨"JesterUnion", "would", "(III)I"⟩ ⟨"JesterUnion", "would", "(III)I"⟩ ∈ gw := gk3 (List.mem_of_getElem? (i := 64) (by decide +kernel)) (by decide +kernel)
theorem q3_65 : Cond.code ⟨"JesterUnion", "would", "(III)I"⟩ prog_1_method_16_code 4 (Option.some FieldType.int) ∈ gw := gk3 (List.mem_of_getElem? (i := 65) (by decide +kernel)) (by decide +kernel)
theorem q3_66 : Cond.methodLink "JesterUnion" 192 ⟨"JesterUnion$Court", "laughsNow", "(III)I"⟩ ∈ gw := gk3 (List.mem_of_getElem? (i := 66) (by decide +kernel)) (by decide +kernel)
theorem q3_67 : Cond.instanceMethod ⟨"JesterUnion$Court", "laughsNow", "(III)I"⟩ ∈ gw := gk3 (List.mem_of_getElem? (i := 67) (by decide +kernel)) (by decide +kernel)
theorem q3_68 : Cond.selects "JesterUnion$Court" ⟨"JesterUnion$Court", "laughsNow", "(III)I"⟩ ⟨"JesterUnion$Court", "laughsNow", "(III)I"⟩ ∈ gw := gk3 (List.mem_of_getElem? (i := 68) (by decide +kernel)) (by decide +kernel)
theorem q3_69 : Cond.code ⟨"JesterUnion$Court", "laughsNow", "(III)I"⟩ prog_3_method_11_code 4 (Option.some FieldType.int) ∈ gw := gk3 (List.mem_of_getElem? (i := 69) (by decide +kernel)) (by decide +kernel)
theorem q3_70 : Cond.methodLink "JesterUnionLaw" 78 ⟨"JesterUnion", "best", "(II)I"⟩ ∈ gw := gk3 (List.mem_of_getElem? (i := 70) (by decide +kernel)) (by decide +kernel)
theorem q3_71 : Cond.instanceMethod ⟨"JesterUnion", "best", "(II)I"⟩ ∈ gw := gk3 (List.mem_of_getElem? (i := 71) (by decide +kernel)) (by decide +kernel)
theorem q3_72 : Cond.selects "JesterUnion" ⟨"JesterUnion", "best", "(II)I"⟩ ⟨"JesterUnion", "best", "(II)I"⟩ ∈ gw := gk3 (List.mem_of_getElem? (i := 72) (by decide +kernel)) (by decide +kernel)
theorem q3_73 : Cond.code ⟨"JesterUnion", "best", "(II)I"⟩ prog_1_method_17_code 3 (Option.some FieldType.int) ∈ gw := gk3 (List.mem_of_getElem? (i := 73) (by decide +kernel)) (by decide +kernel)
theorem q3_74 : Cond.methodLink "JesterUnion" 195 ⟨"JesterUnion$Court", "bestJokeByJoke", "(II)I"⟩ ∈ gw := gk3 (List.mem_of_getElem? (i := 74) (by decide +kernel)) (by decide +kernel)
theorem q3_75 : Cond.instanceMethod ⟨"JesterUnion$Court", "bestJokeByJoke", "(II)I"⟩ ∈ gw := gk3 (List.mem_of_getElem? (i := 75) (by decide +kernel)) (by decide +kernel)
theorem q3_76 : Cond.selects "JesterUnion$Court" ⟨"JesterUnion$Court", "bestJokeByJoke", "(II)I"⟩ ⟨"JesterUnion$Court", "bestJokeByJoke", "(II)I"⟩ ∈ gw := gk3 (List.mem_of_getElem? (i := 76) (by decide +kernel)) (by decide +kernel)
theorem q3_77 : Cond.code ⟨"JesterUnion$Court", "bestJokeByJoke", "(II)I"⟩ prog_3_method_12_code 7 (Option.some FieldType.int) ∈ gw := gk3 (List.mem_of_getElem? (i := 77) (by decide +kernel)) (by decide +kernel)
theorem q3_78 : Cond.methodLink "JesterUnion$Court" 108 ⟨"JesterUnion$Court", "laughsNow", "(III)I"⟩ ∈ gw := gk3 (List.mem_of_getElem? (i := 78) (by decide +kernel)) (by decide +kernel)
theorem q3_79 : Cond.methodLink "JesterUnionLaw" 82 ⟨"JesterUnion", "bestAgain", "(II)I"⟩ ∈ gw := gk3 (List.mem_of_getElem? (i := 79) (by decide +kernel)) (by decide +kernel)
theorem q3_80 : Cond.instanceMethod ⟨"JesterUnion", "bestAgain", "(II)I"⟩ ∈ gw := gk3 (List.mem_of_getElem? (i := 80) (by decide +kernel)) (by decide +kernel)
theorem q3_81 : Cond.selects "JesterUnion" ⟨"JesterUnion", "bestAgain", "(II)I"⟩ ⟨"JesterUnion", "bestAgain", "(II)I"⟩ ∈ gw := gk3 (List.mem_of_getElem? (i := 81) (by decide +kernel)) (by decide +kernel)
theorem q3_82 : Cond.code ⟨"JesterUnion", "bestAgain", "(II)I"⟩ prog_1_method_18_code 3 (Option.some FieldType.int) ∈ gw := gk3 (List.mem_of_getElem? (i := 82) (by decide +kernel)) (by decide +kernel)
theorem q3_83 : Cond.methodLink "JesterUnion" 198 ⟨"JesterUnion$Court", "bestByWit", "(II)I"⟩ ∈ gw := gk3 (List.mem_of_getElem? (i := 83) (by decide +kernel)) (by decide +kernel)
theorem q3_84 : Cond.instanceMethod ⟨"JesterUnion$Court", "bestByWit", "(II)I"⟩ ∈ gw := gk3 (List.mem_of_getElem? (i := 84) (by decide +kernel)) (by decide +kernel)
theorem q3_85 : Cond.selects "JesterUnion$Court" ⟨"JesterUnion$Court", "bestByWit", "(II)I"⟩ ⟨"JesterUnion$Court", "bestByWit", "(II)I"⟩ ∈ gw := gk3 (List.mem_of_getElem? (i := 85) (by decide +kernel)) (by decide +kernel)
theorem q3_86 : Cond.code ⟨"JesterUnion$Court", "bestByWit", "(II)I"⟩ prog_3_method_13_code 9 (Option.some FieldType.int) ∈ gw := gk3 (List.mem_of_getElem? (i := 86) (by decide +kernel)) (by decide +kernel)
theorem q3_87 : Cond.methodLink "JesterUnionLaw" 86 ⟨"JesterUnion", "ends", "()I"⟩ ∈ gw := gk3 (List.mem_of_getElem? (i := 87) (by decide +kernel)) (by decide +kernel)
theorem q3_88 : Cond.instanceMethod ⟨"JesterUnion", "ends", "()I"⟩ ∈ gw := gk3 (List.mem_of_getElem? (i := 88) (by decide +kernel)) (by decide +kernel)
theorem q3_89 : Cond.selects "JesterUnion" ⟨"JesterUnion", "ends", "()I"⟩ ⟨"JesterUnion", "ends", "()I"⟩ ∈ gw := gk3 (List.mem_of_getElem? (i := 89) (by decide +kernel)) (by decide +kernel)
theorem q3_90 : Cond.code ⟨"JesterUnion", "ends", "()I"⟩ prog_1_method_19_code 1 (Option.some FieldType.int) ∈ gw := gk3 (List.mem_of_getElem? (i := 90) (by decide +kernel)) (by decide +kernel)
theorem q3_91 : Cond.methodLink "JesterUnion" 201 ⟨"JesterUnion$Court", "endJokeByJoke", "()I"⟩ ∈ gw := gk3 (List.mem_of_getElem? (i := 91) (by decide +kernel)) (by decide +kernel)
theorem q3_92 : Cond.instanceMethod ⟨"JesterUnion$Court", "endJokeByJoke", "()I"⟩ ∈ gw := gk3 (List.mem_of_getElem? (i := 92) (by decide +kernel)) (by decide +kernel)
theorem q3_93 : Cond.selects "JesterUnion$Court" ⟨"JesterUnion$Court", "endJokeByJoke", "()I"⟩ ⟨"JesterUnion$Court", "endJokeByJoke", "()I"⟩ ∈ gw := gk3 (List.mem_of_getElem? (i := 93) (by decide +kernel)) (by decide +kernel)
theorem q3_94 : Cond.code ⟨"JesterUnion$Court", "endJokeByJoke", "()I"⟩ prog_3_method_7_code 3 (Option.some FieldType.int) ∈ gw := gk3 (List.mem_of_getElem? (i := 94) (by decide +kernel)) (by decide +kernel)
theorem q3_95 : Cond.methodLink "JesterUnionLaw" 90 ⟨"JesterUnion", "endsAgain", "()I"⟩ ∈ gw := gk3 (List.mem_of_getElem? (i := 95) (by decide +kernel)) (by decide +kernel)
theorem q3_96 : Cond.instanceMethod ⟨"JesterUnion", "endsAgain", "()I"⟩ ∈ gw := gk3 (List.mem_of_getElem? (i := 96) (by decide +kernel)) (by decide +kernel)
theorem q3_97 : Cond.selects "JesterUnion" ⟨"JesterUnion", "endsAgain", "()I"⟩ ⟨"JesterUnion", "endsAgain", "()I"⟩ ∈ gw := gk3 (List.mem_of_getElem? (i := 97) (by decide +kernel)) (by decide +kernel)
theorem q3_98 : Cond.code ⟨"JesterUnion", "endsAgain", "()I"⟩ prog_1_method_20_code 1 (Option.some FieldType.int) ∈ gw := gk3 (List.mem_of_getElem? (i := 98) (by decide +kernel)) (by decide +kernel)
theorem q3_99 : Cond.methodLink "JesterUnion" 204 ⟨"JesterUnion$Court", "endHourByHour", "()I"⟩ ∈ gw := gk3 (List.mem_of_getElem? (i := 99) (by decide +kernel)) (by decide +kernel)
theorem q3_100 : Cond.instanceMethod ⟨"JesterUnion$Court", "endHourByHour", "()I"⟩ ∈ gw := gk3 (List.mem_of_getElem? (i := 100) (by decide +kernel)) (by decide +kernel)
theorem q3_101 : Cond.selects "JesterUnion$Court" ⟨"JesterUnion$Court", "endHourByHour", "()I"⟩ ⟨"JesterUnion$Court", "endHourByHour", "()I"⟩ ∈ gw := gk3 (List.mem_of_getElem? (i := 101) (by decide +kernel)) (by decide +kernel)
theorem q3_102 : Cond.code ⟨"JesterUnion$Court", "endHourByHour", "()I"⟩ prog_3_method_8_code 2 (Option.some FieldType.int) ∈ gw := gk3 (List.mem_of_getElem? (i := 102) (by decide +kernel)) (by decide +kernel)
theorem q3_103 : Cond.methodLink "JesterUnion$Court" 82 ⟨"JesterUnion$Court", "doesAnyEndAt", "(I)Z"⟩ ∈ gw := gk3 (List.mem_of_getElem? (i := 103) (by decide +kernel)) (by decide +kernel)
theorem q3_105 : Cond.instanceMethod ⟨"JesterUnion$Court", "doesAnyEndAt", "(I)Z"⟩ ∈ gw := gk3 (List.mem_of_getElem? (i := 105) (by decide +kernel)) (by decide +kernel)
theorem q3_106 : Cond.code ⟨"JesterUnion$Court", "doesAnyEndAt", "(I)Z"⟩ prog_3_method_9_code 3 (Option.some FieldType.boolean) ∈ gw := gk3 (List.mem_of_getElem? (i := 106) (by decide +kernel)) (by decide +kernel)
theorem q3_107 : Cond.methodLink "JesterUnionLaw" 94 ⟨"JesterUnion", "forecast", "()I"⟩ ∈ gw := gk3 (List.mem_of_getElem? (i := 107) (by decide +kernel)) (by decide +kernel)
theorem q3_108 : Cond.instanceMethod ⟨"JesterUnion", "forecast", "()I"⟩ ∈ gw := gk3 (List.mem_of_getElem? (i := 108) (by decide +kernel)) (by decide +kernel)
theorem q3_109 : Cond.selects "JesterUnion" ⟨"JesterUnion", "forecast", "()I"⟩ ⟨"JesterUnion", "forecast", "()I"⟩ ∈ gw := gk3 (List.mem_of_getElem? (i := 109) (by decide +kernel)) (by decide +kernel)
theorem q3_110 : Cond.code ⟨"JesterUnion", "forecast", "()I"⟩ prog_1_method_21_code 2 (Option.some FieldType.int) ∈ gw := gk3 (List.mem_of_getElem? (i := 110) (by decide +kernel)) (by decide +kernel)
theorem q3_111 : Cond.methodLink "JesterUnionLaw" 98 ⟨"JesterUnion", "ranked", "(I)I"⟩ ∈ gw := gk3 (List.mem_of_getElem? (i := 111) (by decide +kernel)) (by decide +kernel)
theorem q3_112 : Cond.instanceMethod ⟨"JesterUnion", "ranked", "(I)I"⟩ ∈ gw := gk3 (List.mem_of_getElem? (i := 112) (by decide +kernel)) (by decide +kernel)
theorem q3_113 : Cond.selects "JesterUnion" ⟨"JesterUnion", "ranked", "(I)I"⟩ ⟨"JesterUnion", "ranked", "(I)I"⟩ ∈ gw := gk3 (List.mem_of_getElem? (i := 113) (by decide +kernel)) (by decide +kernel)
theorem q3_114 : Cond.code ⟨"JesterUnion", "ranked", "(I)I"⟩ prog_1_method_22_code 2 (Option.some FieldType.int) ∈ gw := gk3 (List.mem_of_getElem? (i := 114) (by decide +kernel)) (by decide +kernel)
theorem q3_115 : Cond.methodLink "JesterUnion" 214 ⟨"JesterUnion$Fools", "atRank", "(I)I"⟩ ∈ gw := gk3 (List.mem_of_getElem? (i := 115) (by decide +kernel)) (by decide +kernel)
theorem q3_116 : Cond.instanceMethod ⟨"JesterUnion$Fools", "atRank", "(I)I"⟩ ∈ gw := gk3 (List.mem_of_getElem? (i := 116) (by decide +kernel)) (by decide +kernel)
theorem q3_117 : Cond.selects "JesterUnion$Fools" ⟨"JesterUnion$Fools", "atRank", "(I)I"⟩ ⟨"JesterUnion$Fools", "atRank", "(I)I"⟩ ∈ gw := gk3 (List.mem_of_getElem? (i := 117) (by decide +kernel)) (by decide +kernel)
theorem q3_118 : Cond.code ⟨"JesterUnion$Fools", "atRank", "(I)I"⟩ prog_4_method_5_code 3 (Option.some FieldType.int) ∈ gw := gk3 (List.mem_of_getElem? (i := 118) (by decide +kernel)) (by decide +kernel)
theorem q3_119 : Cond.methodLink "JesterUnion$Fools" 38 ⟨"JesterUnion$Fools", "countAhead", "(I)I"⟩ ∈ gw := gk3 (List.mem_of_getElem? (i := 119) (by decide +kernel)) (by decide +kernel)
theorem q3_121 : Cond.instanceMethod ⟨"JesterUnion$Fools", "countAhead", "(I)I"⟩ ∈ gw := gk3 (List.mem_of_getElem? (i := 121) (by decide +kernel)) (by decide +kernel)
theorem q3_122 : Cond.code ⟨"JesterUnion$Fools", "countAhead", "(I)I"⟩ prog_4_method_6_code 4 (Option.some FieldType.int) ∈ gw := gk3 (List.mem_of_getElem? (i := 122) (by decide +kernel)) (by decide +kernel)
theorem q3_123 : Cond.methodLink "JesterUnion$Fools" 42 ⟨"JesterUnion$Fools", "isAhead", "(II)Z"⟩ ∈ gw := gk3 (List.mem_of_getElem? (i := 123) (by decide +kernel)) (by decide +kernel)
theorem q3_125 : Cond.instanceMethod ⟨"JesterUnion$Fools", "isAhead", "(II)Z"⟩ ∈ gw := gk3 (List.mem_of_getElem? (i := 125) (by decide +kernel)) (by decide +kernel)
theorem q3_126 : Cond.code ⟨"JesterUnion$Fools", "isAhead", "(II)Z"⟩ prog_4_method_7_code 3 (Option.some FieldType.boolean) ∈ gw := gk3 (List.mem_of_getElem? (i := 126) (by decide +kernel)) (by decide +kernel)
theorem q3_127 : Cond.methodLink "JesterUnionLaw" 102 ⟨"JesterUnion", "stalest", "(I)I"⟩ ∈ gw := gk3 (List.mem_of_getElem? (i := 127) (by decide +kernel)) (by decide +kernel)
theorem q3_128 : Cond.instanceMethod ⟨"JesterUnion", "stalest", "(I)I"⟩ ∈ gw := gk3 (List.mem_of_getElem? (i := 128) (by decide +kernel)) (by decide +kernel)
theorem q3_129 : Cond.selects "JesterUnion" ⟨"JesterUnion", "stalest", "(I)I"⟩ ⟨"JesterUnion", "stalest", "(I)I"⟩ ∈ gw := gk3 (List.mem_of_getElem? (i := 129) (by decide +kernel)) (by decide +kernel)
theorem q3_130 : Cond.code ⟨"JesterUnion", "stalest", "(I)I"⟩ prog_1_method_23_code 2 (Option.some FieldType.int) ∈ gw := gk3 (List.mem_of_getElem? (i := 130) (by decide +kernel)) (by decide +kernel)
theorem q3_131 : Cond.methodLink "JesterUnion" 217 ⟨"JesterUnion$Jokes", "atRank", "(I)I"⟩ ∈ gw := gk3 (List.mem_of_getElem? (i := 131) (by decide +kernel)) (by decide +kernel)
theorem q3_132 : Cond.instanceMethod ⟨"JesterUnion$Jokes", "atRank", "(I)I"⟩ ∈ gw := gk3 (List.mem_of_getElem? (i := 132) (by decide +kernel)) (by decide +kernel)
theorem q3_133 : Cond.selects "JesterUnion$Jokes" ⟨"JesterUnion$Jokes", "atRank", "(I)I"⟩ ⟨"JesterUnion$Jokes", "atRank", "(I)I"⟩ ∈ gw := gk3 (List.mem_of_getElem? (i := 133) (by decide +kernel)) (by decide +kernel)
theorem q3_134 : Cond.code ⟨"JesterUnion$Jokes", "atRank", "(I)I"⟩ prog_6_method_9_code 3 (Option.some FieldType.int) ∈ gw := gk3 (List.mem_of_getElem? (i := 134) (by decide +kernel)) (by decide +kernel)
theorem q3_135 : Cond.methodLink "JesterUnion$Jokes" 36 ⟨"JesterUnion$Jokes", "countAhead", "(I)I"⟩ ∈ gw := gk3 (List.mem_of_getElem? (i := 135) (by decide +kernel)) (by decide +kernel)
theorem q3_137 : Cond.instanceMethod ⟨"JesterUnion$Jokes", "countAhead", "(I)I"⟩ ∈ gw := gk3 (List.mem_of_getElem? (i := 137) (by decide +kernel)) (by decide +kernel)
theorem q3_138 : Cond.code ⟨"JesterUnion$Jokes", "countAhead", "(I)I"⟩ prog_6_method_10_code 4 (Option.some FieldType.int) ∈ gw := gk3 (List.mem_of_getElem? (i := 138) (by decide +kernel)) (by decide +kernel)
theorem q3_139 : Cond.methodLink "JesterUnion$Jokes" 40 ⟨"JesterUnion$Jokes", "isAhead", "(II)Z"⟩ ∈ gw := gk3 (List.mem_of_getElem? (i := 139) (by decide +kernel)) (by decide +kernel)
theorem q3_141 : Cond.instanceMethod ⟨"JesterUnion$Jokes", "isAhead", "(II)Z"⟩ ∈ gw := gk3 (List.mem_of_getElem? (i := 141) (by decide +kernel)) (by decide +kernel)
theorem q3_142 : Cond.code ⟨"JesterUnion$Jokes", "isAhead", "(II)Z"⟩ prog_6_method_11_code 5 (Option.some FieldType.boolean) ∈ gw := gk3 (List.mem_of_getElem? (i := 142) (by decide +kernel)) (by decide +kernel)
theorem q3_143 : Cond.methodLink "JesterUnion$Jokes" 44 ⟨"JesterUnion$Jokes", "tellings", "(I)I"⟩ ∈ gw := gk3 (List.mem_of_getElem? (i := 143) (by decide +kernel)) (by decide +kernel)
theorem q3_144 : Cond.methodLink "JesterUnionLaw" 106 ⟨"JesterUnion", "append", "(I)I"⟩ ∈ gw := gk3 (List.mem_of_getElem? (i := 144) (by decide +kernel)) (by decide +kernel)
theorem q3_145 : Cond.instanceMethod ⟨"JesterUnion", "append", "(I)I"⟩ ∈ gw := gk3 (List.mem_of_getElem? (i := 145) (by decide +kernel)) (by decide +kernel)
theorem q3_146 : Cond.selects "JesterUnion" ⟨"JesterUnion", "append", "(I)I"⟩ ⟨"JesterUnion", "append", "(I)I"⟩ ∈ gw := gk3 (List.mem_of_getElem? (i := 146) (by decide +kernel)) (by decide +kernel)
theorem q3_147 : Cond.code ⟨"JesterUnion", "append", "(I)I"⟩ prog_1_method_24_code 2 (Option.some FieldType.int) ∈ gw := gk3 (List.mem_of_getElem? (i := 147) (by decide +kernel)) (by decide +kernel)
theorem q3_148 : Cond.methodLink "JesterUnion" 221 ⟨"java/lang/StringBuilder", "length", "()I"⟩ ∈ gw := gk3 (List.mem_of_getElem? (i := 148) (by decide +kernel)) (by decide +kernel)
theorem q3_149 : Cond.instanceMethod ⟨"java/lang/StringBuilder", "length", "()I"⟩ ∈ gw := gk3 (List.mem_of_getElem? (i := 149) (by decide +kernel)) (by decide +kernel)
theorem q3_150 : Cond.selects "java/lang/StringBuilder" ⟨"java/lang/StringBuilder", "length", "()I"⟩ ⟨"java/lang/StringBuilder", "length", "()I"⟩ ∈ gw := gk3 (List.mem_of_getElem? (i := 150) (by decide +kernel)) (by decide +kernel)
theorem q3_151 : Cond.code ⟨"java/lang/StringBuilder", "length", "()I"⟩ prog_15_method_93_code 1 (Option.some FieldType.int) ∈ gw := gk3 (List.mem_of_getElem? (i := 151) (by decide +kernel)) (by decide +kernel)
theorem q3_152 : Cond.methodLink "java/lang/StringBuilder" 343 ⟨"java/lang/AbstractStringBuilder", "length", "()I"⟩ ∈ gw := gk3 (List.mem_of_getElem? (i := 152) (by decide +kernel)) (by decide +kernel)
theorem q3_153 : Cond.instanceMethod ⟨"java/lang/AbstractStringBuilder", "length", "()I"⟩ ∈ gw := gk3 (List.mem_of_getElem? (i := 153) (by decide +kernel)) (by decide +kernel)
theorem q3_154 : Cond.code ⟨"java/lang/AbstractStringBuilder", "length", "()I"⟩ prog_10_method_6_code 1 (Option.some FieldType.int) ∈ gw := gk3 (List.mem_of_getElem? (i := 154) (by decide +kernel)) (by decide +kernel)
theorem q3_155 : Cond.methodLink "JesterUnion" 224 ⟨"java/lang/StringBuilder", "append", "(C)Ljava/lang/StringBuilder;"⟩ ∈ gw := gk3 (List.mem_of_getElem? (i := 155) (by decide +kernel)) (by decide +kernel)
theorem q3_156 : Cond.instanceMethod ⟨"java/lang/StringBuilder", "append", "(C)Ljava/lang/StringBuilder;"⟩ ∈ gw := gk3 (List.mem_of_getElem? (i := 156) (by decide +kernel)) (by decide +kernel)
theorem q3_157 : Cond.selects "java/lang/StringBuilder" ⟨"java/lang/StringBuilder", "append", "(C)Ljava/lang/StringBuilder;"⟩ ⟨"java/lang/StringBuilder", "append", "(C)Ljava/lang/StringBuilder;"⟩ ∈ gw := gk3 (List.mem_of_getElem? (i := 157) (by decide +kernel)) (by decide +kernel)
theorem q3_158 : Cond.code ⟨"java/lang/StringBuilder", "append", "(C)Ljava/lang/StringBuilder;"⟩ prog_15_method_14_code 2 (Option.some (FieldType.object "java/lang/StringBuilder")) ∈ gw := gk3 (List.mem_of_getElem? (i := 158) (by decide +kernel)) (by decide +kernel)
theorem q3_159 : Cond.methodLink "java/lang/StringBuilder" 50 ⟨"java/lang/AbstractStringBuilder", "append", "(C)Ljava/lang/AbstractStringBuilder;"⟩ ∈ gw := gk3 (List.mem_of_getElem? (i := 159) (by decide +kernel)) (by decide +kernel)
theorem q3_160 : Cond.instanceMethod ⟨"java/lang/AbstractStringBuilder", "append", "(C)Ljava/lang/AbstractStringBuilder;"⟩ ∈ gw := gk3 (List.mem_of_getElem? (i := 160) (by decide +kernel)) (by decide +kernel)
theorem q3_161 : Cond.code ⟨"java/lang/AbstractStringBuilder", "append", "(C)Ljava/lang/AbstractStringBuilder;"⟩ prog_10_method_31_code 2 (Option.some (FieldType.object "java/lang/AbstractStringBuilder")) ∈ gw := gk3 (List.mem_of_getElem? (i := 161) (by decide +kernel)) (by decide +kernel)
theorem q3_162 : Cond.methodLink "java/lang/AbstractStringBuilder" 100 ⟨"java/lang/AbstractStringBuilder", "ensureCapacityInternal", "(I)V"⟩ ∈ gw := gk3 (List.mem_of_getElem? (i := 162) (by decide +kernel)) (by decide +kernel)
theorem q3_164 : Cond.instanceMethod ⟨"java/lang/AbstractStringBuilder", "ensureCapacityInternal", "(I)V"⟩ ∈ gw := gk3 (List.mem_of_getElem? (i := 164) (by decide +kernel)) (by decide +kernel)
theorem q3_165 : Cond.code ⟨"java/lang/AbstractStringBuilder", "ensureCapacityInternal", "(I)V"⟩ prog_10_method_9_code 3 (Option.none : Option FieldType) ∈ gw := gk3 (List.mem_of_getElem? (i := 165) (by decide +kernel)) (by decide +kernel)
theorem q3_166 : Cond.methodLink "java/lang/AbstractStringBuilder" 104 ⟨"java/lang/AbstractStringBuilder", "newCapacity", "(I)I"⟩ ∈ gw := gk3 (List.mem_of_getElem? (i := 166) (by decide +kernel)) (by decide +kernel)
theorem q3_168 : Cond.instanceMethod ⟨"java/lang/AbstractStringBuilder", "newCapacity", "(I)I"⟩ ∈ gw := gk3 (List.mem_of_getElem? (i := 168) (by decide +kernel)) (by decide +kernel)
theorem q3_169 : Cond.code ⟨"java/lang/AbstractStringBuilder", "newCapacity", "(I)I"⟩ prog_10_method_10_code 6 (Option.some FieldType.int) ∈ gw := gk3 (List.mem_of_getElem? (i := 169) (by decide +kernel)) (by decide +kernel)
theorem q3_170 : Cond.methodLink "java/lang/AbstractStringBuilder" 114 ⟨"jdk/internal/util/ArraysSupport", "newLength", "(III)I"⟩ ∈ gw := gk3 (List.mem_of_getElem? (i := 170) (by decide +kernel)) (by decide +kernel)
theorem q3_171 : Cond.static ⟨"jdk/internal/util/ArraysSupport", "newLength", "(III)I"⟩ ∈ gw := gk3 (List.mem_of_getElem? (i := 171) (by decide +kernel)) (by decide +kernel)
theorem q3_172 : Cond.code ⟨"jdk/internal/util/ArraysSupport", "newLength", "(III)I"⟩ prog_20_method_27_code 4 (Option.some FieldType.int) ∈ gw := gk3 (List.mem_of_getElem? (i := 172) (by decide +kernel)) (by decide +kernel)
theorem q3_173 : Cond.methodLink "jdk/internal/util/ArraysSupport" 194 ⟨"java/lang/Math", "max", "(II)I"⟩ ∈ gw := gk3 (List.mem_of_getElem? (i := 173) (by decide +kernel)) (by decide +kernel)
theorem q3_174 : Cond.constant "jdk/internal/util/ArraysSupport" 200 (2147483639 : Int32) ∈ gw := gk3 (List.mem_of_getElem? (i := 174) (by decide +kernel)) (by decide +kernel)
theorem q3_175 : Cond.methodLink "jdk/internal/util/ArraysSupport" 201 ⟨"jdk/internal/util/ArraysSupport", "hugeLength", "(II)I"⟩ ∈ gw := gk3 (List.mem_of_getElem? (i := 175) (by decide +kernel)) (by decide +kernel)
theorem q3_176 : Cond.static ⟨"jdk/internal/util/ArraysSupport", "hugeLength", "(II)I"⟩ ∈ gw := gk3 (List.mem_of_getElem? (i := 176) (by decide +kernel)) (by decide +kernel)
theorem q3_177 : Cond.code ⟨"jdk/internal/util/ArraysSupport", "hugeLength", "(II)I"⟩ prog_20_method_28_code 3 (Option.some FieldType.int) ∈ gw := gk3 (List.mem_of_getElem? (i := 177) (by decide +kernel)) (by decide +kernel)
theorem q3_178 : Cond.constant "java/lang/AbstractStringBuilder" 39 (2147483647 : Int32) ∈ gw := gk3 (List.mem_of_getElem? (i := 178) (by decide +kernel)) (by decide +kernel)
theorem q3_179 : Cond.methodLink "java/lang/AbstractStringBuilder" 108 ⟨"java/util/Arrays", "copyOf", "([BI)[B"⟩ ∈ gw := gk3 (List.mem_of_getElem? (i := 179) (by decide +kernel)) (by decide +kernel)
theorem q3_180 : Cond.static ⟨"java/util/Arrays", "copyOf", "([BI)[B"⟩ ∈ gw := gk3 (List.mem_of_getElem? (i := 180) (by decide +kernel)) (by decide +kernel)
theorem q3_181 : Cond.code ⟨"java/util/Arrays", "copyOf", "([BI)[B"⟩ prog_19_method_121_code 3 (Option.some (FieldType.array FieldType.byte)) ∈ gw := gk3 (List.mem_of_getElem? (i := 181) (by decide +kernel)) (by decide +kernel)
theorem q3_182 : Cond.methodLink "java/util/Arrays" 310 ⟨"[B", "clone", "()Ljava/lang/Object;"⟩ ∈ gw := gk3 (List.mem_of_getElem? (i := 182) (by decide +kernel)) (by decide +kernel)
theorem q3_183 : Cond.sameMethod "[B" "java/lang/Object" "clone" "()Ljava/lang/Object;" ∈ gw := gk3 (List.mem_of_getElem? (i := 183) (by decide +kernel)) (by decide +kernel)
theorem q3_184 : Cond.native ⟨"java/lang/Object", "clone", "()Ljava/lang/Object;"⟩ ∈ gw := gk3 (List.mem_of_getElem? (i := 184) (by decide +kernel)) (by decide +kernel)
theorem q3_185 : Cond.instanceMethod ⟨"java/lang/Object", "clone", "()Ljava/lang/Object;"⟩ ∈ gw := gk3 (List.mem_of_getElem? (i := 185) (by decide +kernel)) (by decide +kernel)
theorem q3_186 : Cond.selects "[B" ⟨"[B", "clone", "()Ljava/lang/Object;"⟩ ⟨"java/lang/Object", "clone", "()Ljava/lang/Object;"⟩ ∈ gw := gk3 (List.mem_of_getElem? (i := 186) (by decide +kernel)) (by decide +kernel)
theorem q3_188 : Cond.classLink "java/util/Arrays" 311 "[B" ∈ gw := gk3 (List.mem_of_getElem? (i := 188) (by decide +kernel)) (by decide +kernel)
theorem q3_189 : Cond.methodLink "java/util/Arrays" 304 ⟨"java/lang/Math", "min", "(II)I"⟩ ∈ gw := gk3 (List.mem_of_getElem? (i := 189) (by decide +kernel)) (by decide +kernel)
theorem q3_190 : Cond.methodLink "java/util/Arrays" 150 ⟨"java/lang/System", "arraycopy", "(Ljava/lang/Object;ILjava/lang/Object;II)V"⟩ ∈ gw := gk3 (List.mem_of_getElem? (i := 190) (by decide +kernel)) (by decide +kernel)
theorem q3_191 : Cond.methodLink "java/lang/AbstractStringBuilder" 83 ⟨"java/lang/AbstractStringBuilder", "isLatin1", "()Z"⟩ ∈ gw := gk3 (List.mem_of_getElem? (i := 191) (by decide +kernel)) (by decide +kernel)
theorem q3_192 : Cond.instanceMethod ⟨"java/lang/AbstractStringBuilder", "isLatin1", "()Z"⟩ ∈ gw := gk3 (List.mem_of_getElem? (i := 192) (by decide +kernel)) (by decide +kernel)
theorem q3_193 : Cond.sameMethod "java/lang/AbstractStringBuilder" "java/lang/AbstractStringBuilder" "isLatin1" "()Z" ∈ gw := gk3 (List.mem_of_getElem? (i := 193) (by decide +kernel)) (by decide +kernel)
theorem q3_194 : Cond.selects "java/lang/StringBuilder" ⟨"java/lang/AbstractStringBuilder", "isLatin1", "()Z"⟩ ⟨"java/lang/AbstractStringBuilder", "isLatin1", "()Z"⟩ ∈ gw := gk3 (List.mem_of_getElem? (i := 194) (by decide +kernel)) (by decide +kernel)
theorem q3_195 : Cond.code ⟨"java/lang/AbstractStringBuilder", "isLatin1", "()Z"⟩ prog_10_method_68_code 1 (Option.some FieldType.boolean) ∈ gw := gk3 (List.mem_of_getElem? (i := 195) (by decide +kernel)) (by decide +kernel)
theorem q3_196 : Cond.methodLink "java/lang/AbstractStringBuilder" 191 ⟨"java/lang/StringLatin1", "canEncode", "(C)Z"⟩ ∈ gw := gk3 (List.mem_of_getElem? (i := 196) (by decide +kernel)) (by decide +kernel)
theorem q3_197 : Cond.static ⟨"java/lang/StringLatin1", "canEncode", "(C)Z"⟩ ∈ gw := gk3 (List.mem_of_getElem? (i := 197) (by decide +kernel)) (by decide +kernel)
theorem q3_198 : Cond.code ⟨"java/lang/StringLatin1", "canEncode", "(C)Z"⟩ prog_16_method_3_code 1 (Option.some FieldType.boolean) ∈ gw := gk3 (List.mem_of_getElem? (i := 198) (by decide +kernel)) (by decide +kernel)
theorem q3_199 : Cond.methodLink "java/lang/AbstractStringBuilder" 195 ⟨"java/lang/AbstractStringBuilder", "inflate", "()V"⟩ ∈ gw := gk3 (List.mem_of_getElem? (i := 199) (by decide +kernel)) (by decide +kernel)
theorem q3_201 : Cond.instanceMethod ⟨"java/lang/AbstractStringBuilder", "inflate", "()V"⟩ ∈ gw := gk3 (List.mem_of_getElem? (i := 201) (by decide +kernel)) (by decide +kernel)
theorem q3_202 : Cond.code ⟨"java/lang/AbstractStringBuilder", "inflate", "()V"⟩ prog_10_method_11_code 2 (Option.none : Option FieldType) ∈ gw := gk3 (List.mem_of_getElem? (i := 202) (by decide +kernel)) (by decide +kernel)
theorem q3_203 : Cond.methodLink "java/lang/AbstractStringBuilder" 125 ⟨"java/lang/StringLatin1", "inflate", "([BI[BII)V"⟩ ∈ gw := gk3 (List.mem_of_getElem? (i := 203) (by decide +kernel)) (by decide +kernel)
theorem q3_204 : Cond.static ⟨"java/lang/StringLatin1", "inflate", "([BI[BII)V"⟩ ∈ gw := gk3 (List.mem_of_getElem? (i := 204) (by decide +kernel)) (by decide +kernel)
theorem q3_205 : Cond.code ⟨"java/lang/StringLatin1", "inflate", "([BI[BII)V"⟩ prog_16_method_50_code 5 (Option.none : Option FieldType) ∈ gw := gk3 (List.mem_of_getElem? (i := 205) (by decide +kernel)) (by decide +kernel)
theorem q3_206 : Cond.methodLink "java/lang/StringLatin1" 240 ⟨"java/lang/StringUTF16", "inflate", "([BI[BII)V"⟩ ∈ gw := gk3 (List.mem_of_getElem? (i := 206) (by decide +kernel)) (by decide +kernel)
theorem q3_207 : Cond.static ⟨"java/lang/StringUTF16", "inflate", "([BI[BII)V"⟩ ∈ gw := gk3 (List.mem_of_getElem? (i := 207) (by decide +kernel)) (by decide +kernel)
theorem q3_208 : Cond.code ⟨"java/lang/StringUTF16", "inflate", "([BI[BII)V"⟩ prog_17_method_86_code 6 (Option.none : Option FieldType) ∈ gw := gk3 (List.mem_of_getElem? (i := 208) (by decide +kernel)) (by decide +kernel)
theorem q3_209 : Cond.methodLink "java/lang/StringUTF16" 173 ⟨"java/lang/StringUTF16", "checkBoundsOffCount", "(II[B)V"⟩ ∈ gw := gk3 (List.mem_of_getElem? (i := 209) (by decide +kernel)) (by decide +kernel)
theorem q3_210 : Cond.static ⟨"java/lang/StringUTF16", "checkBoundsOffCount", "(II[B)V"⟩ ∈ gw := gk3 (List.mem_of_getElem? (i := 210) (by decide +kernel)) (by decide +kernel)
theorem q3_211 : Cond.code ⟨"java/lang/StringUTF16", "checkBoundsOffCount", "(II[B)V"⟩ prog_17_method_94_code 3 (Option.none : Option FieldType) ∈ gw := gk3 (List.mem_of_getElem? (i := 211) (by decide +kernel)) (by decide +kernel)
theorem q3_212 : Cond.methodLink "java/lang/StringUTF16" 48 ⟨"java/lang/StringUTF16", "length", "([B)I"⟩ ∈ gw := gk3 (List.mem_of_getElem? (i := 212) (by decide +kernel)) (by decide +kernel)
theorem q3_213 : Cond.static ⟨"java/lang/StringUTF16", "length", "([B)I"⟩ ∈ gw := gk3 (List.mem_of_getElem? (i := 213) (by decide +kernel)) (by decide +kernel)
theorem q3_214 : Cond.code ⟨"java/lang/StringUTF16", "length", "([B)I"⟩ prog_17_method_6_code 1 (Option.some FieldType.int) ∈ gw := gk3 (List.mem_of_getElem? (i := 214) (by decide +kernel)) (by decide +kernel)
theorem q3_215 : Cond.methodLink "java/lang/StringUTF16" 419 ⟨"java/lang/String", "checkBoundsOffCount", "(III)I"⟩ ∈ gw := gk3 (List.mem_of_getElem? (i := 215) (by decide +kernel)) (by decide +kernel)
theorem q3_216 : Cond.static ⟨"java/lang/String", "checkBoundsOffCount", "(III)I"⟩ ∈ gw := gk3 (List.mem_of_getElem? (i := 216) (by decide +kernel)) (by decide +kernel)
theorem q3_217 : Cond.code ⟨"java/lang/String", "checkBoundsOffCount", "(III)I"⟩ prog_14_method_157_code 3 (Option.some FieldType.int) ∈ gw := gk3 (List.mem_of_getElem? (i := 217) (by decide +kernel)) (by decide +kernel)
theorem q3_218 : Cond.fieldLink "java/lang/String" 1053 "jdk/internal/util/Preconditions" "SIOOBE_FORMATTER" "Ljava/util/function/BiFunction;" ∈ gw := gk3 (List.mem_of_getElem? (i := 218) (by decide +kernel)) (by decide +kernel)
theorem q3_220 : Cond.methodLink "java/lang/String" 1065 ⟨"jdk/internal/util/Preconditions", "checkFromIndexSize", "(IIILjava/util/function/BiFunction;)I"⟩ ∈ gw := gk3 (List.mem_of_getElem? (i := 220) (by decide +kernel)) (by decide +kernel)
theorem q3_221 : Cond.static ⟨"jdk/internal/util/Preconditions", "checkFromIndexSize", "(IIILjava/util/function/BiFunction;)I"⟩ ∈ gw := gk3 (List.mem_of_getElem? (i := 221) (by decide +kernel)) (by decide +kernel)
theorem q3_222 : Cond.code ⟨"jdk/internal/util/Preconditions", "checkFromIndexSize", "(IIILjava/util/function/BiFunction;)I"⟩ prog_21_method_13_code 4 (Option.some FieldType.int) ∈ gw := gk3 (List.mem_of_getElem? (i := 222) (by decide +kernel)) (by decide +kernel)
theorem q3_223 : Cond.methodLink "java/lang/StringUTF16" 111 ⟨"java/lang/StringUTF16", "putChar", "([BII)V"⟩ ∈ gw := gk3 (List.mem_of_getElem? (i := 223) (by decide +kernel)) (by decide +kernel)
theorem q3_224 : Cond.static ⟨"java/lang/StringUTF16", "putChar", "([BII)V"⟩ ∈ gw := gk3 (List.mem_of_getElem? (i := 224) (by decide +kernel)) (by decide +kernel)
theorem q3_225 : Cond.code ⟨"java/lang/StringUTF16", "putChar", "([BII)V"⟩ prog_17_method_4_code 3 (Option.none : Option FieldType) ∈ gw := gk3 (List.mem_of_getElem? (i := 225) (by decide +kernel)) (by decide +kernel)
theorem q3_226 : Cond.fieldLink "java/lang/StringUTF16" 44 "java/lang/StringUTF16" "$assertionsDisabled" "Z" ∈ gw := gk3 (List.mem_of_getElem? (i := 226) (by decide +kernel)) (by decide +kernel)
theorem q3_228 : Cond.fieldLink "java/lang/StringUTF16" 59 "java/lang/StringUTF16" "HI_BYTE_SHIFT" "I" ∈ gw := gk3 (List.mem_of_getElem? (i := 228) (by decide +kernel)) (by decide +kernel)
theorem q3_230 : Cond.fieldLink "java/lang/StringUTF16" 63 "java/lang/StringUTF16" "LO_BYTE_SHIFT" "I" ∈ gw := gk3 (List.mem_of_getElem? (i := 230) (by decide +kernel)) (by decide +kernel)
theorem q3_232 : Cond.methodLink "java/lang/AbstractStringBuilder" 197 ⟨"java/lang/StringUTF16", "putCharSB", "([BII)V"⟩ ∈ gw := gk3 (List.mem_of_getElem? (i := 232) (by decide +kernel)) (by decide +kernel)
theorem q3_233 : Cond.static ⟨"java/lang/StringUTF16", "putCharSB", "([BII)V"⟩ ∈ gw := gk3 (List.mem_of_getElem? (i := 233) (by decide +kernel)) (by decide +kernel)
theorem q3_234 : Cond.code ⟨"java/lang/StringUTF16", "putCharSB", "([BII)V"⟩ prog_17_method_71_code 3 (Option.none : Option FieldType) ∈ gw := gk3 (List.mem_of_getElem? (i := 234) (by decide +kernel)) (by decide +kernel)
theorem q3_235 : Cond.methodLink "java/lang/StringUTF16" 67 ⟨"java/lang/StringUTF16", "checkIndex", "(I[B)V"⟩ ∈ gw := gk3 (List.mem_of_getElem? (i := 235) (by decide +kernel)) (by decide +kernel)
theorem q3_236 : Cond.static ⟨"java/lang/StringUTF16", "checkIndex", "(I[B)V"⟩ ∈ gw := gk3 (List.mem_of_getElem? (i := 236) (by decide +kernel)) (by decide +kernel)
theorem q3_237 : Cond.code ⟨"java/lang/StringUTF16", "checkIndex", "(I[B)V"⟩ prog_17_method_91_code 2 (Option.none : Option FieldType) ∈ gw := gk3 (List.mem_of_getElem? (i := 237) (by decide +kernel)) (by decide +kernel)
theorem q3_238 : Cond.methodLink "java/lang/StringUTF16" 414 ⟨"java/lang/String", "checkIndex", "(II)V"⟩ ∈ gw := gk3 (List.mem_of_getElem? (i := 238) (by decide +kernel)) (by decide +kernel)
theorem q3_239 : Cond.static ⟨"java/lang/String", "checkIndex", "(II)V"⟩ ∈ gw := gk3 (List.mem_of_getElem? (i := 239) (by decide +kernel)) (by decide +kernel)
theorem q4_0 : Cond.code ⟨"java/lang/String", "checkIndex", "(II)V"⟩ prog_14_method_155_code 2 (Option.none : Option FieldType) ∈ gw := gk4 (List.mem_of_getElem? (i := 0) (by decide +kernel)) (by decide +kernel)
theorem q4_1 : Cond.methodLink "java/lang/String" 1059 ⟨"jdk/internal/util/Preconditions", "checkIndex", "(IILjava/util/function/BiFunction;)I"⟩ ∈ gw := gk4 (List.mem_of_getElem? (i := 1) (by decide +kernel)) (by decide +kernel)
theorem q4_2 : Cond.static ⟨"jdk/internal/util/Preconditions", "checkIndex", "(IILjava/util/function/BiFunction;)I"⟩ ∈ gw := gk4 (List.mem_of_getElem? (i := 2) (by decide +kernel)) (by decide +kernel)
theorem q4_3 : Cond.code ⟨"jdk/internal/util/Preconditions", "checkIndex", "(IILjava/util/function/BiFunction;)I"⟩ prog_21_method_11_code 3 (Option.some FieldType.int) ∈ gw := gk4 (List.mem_of_getElem? (i := 3) (by decide +kernel)) (by decide +kernel)
theorem q4_4 : Cond.methodLink "JesterUnionLaw" 110 ⟨"JesterUnion", "run", "()I"⟩ ∈ gw := gk4 (List.mem_of_getElem? (i := 4) (by decide +kernel)) (by decide +kernel)
theorem q4_5 : Cond.instanceMethod ⟨"JesterUnion", "run", "()I"⟩ ∈ gw := gk4 (List.mem_of_getElem? (i := 5) (by decide +kernel)) (by decide +kernel)
theorem q4_6 : Cond.selects "JesterUnion" ⟨"JesterUnion", "run", "()I"⟩ ⟨"JesterUnion", "run", "()I"⟩ ∈ gw := gk4 (List.mem_of_getElem? (i := 6) (by decide +kernel)) (by decide +kernel)
theorem q4_7 : Cond.code ⟨"JesterUnion", "run", "()I"⟩ prog_1_method_25_code 3 (Option.some FieldType.int) ∈ gw := gk4 (List.mem_of_getElem? (i := 7) (by decide +kernel)) (by decide +kernel)
theorem q4_8 : Cond.methodLink "JesterUnion" 228 ⟨"JesterUnion$OrderText", "read", "()Z"⟩ ∈ gw := gk4 (List.mem_of_getElem? (i := 8) (by decide +kernel)) (by decide +kernel)
theorem q4_9 : Cond.instanceMethod ⟨"JesterUnion$OrderText", "read", "()Z"⟩ ∈ gw := gk4 (List.mem_of_getElem? (i := 9) (by decide +kernel)) (by decide +kernel)
theorem q4_10 : Cond.selects "JesterUnion$OrderText" ⟨"JesterUnion$OrderText", "read", "()Z"⟩ ⟨"JesterUnion$OrderText", "read", "()Z"⟩ ∈ gw := gk4 (List.mem_of_getElem? (i := 10) (by decide +kernel)) (by decide +kernel)
theorem q4_11 : Cond.code ⟨"JesterUnion$OrderText", "read", "()Z"⟩ prog_7_method_4_code 1 (Option.some FieldType.boolean) ∈ gw := gk4 (List.mem_of_getElem? (i := 11) (by decide +kernel)) (by decide +kernel)
theorem q4_12 : Cond.methodLink "JesterUnion$OrderText" 36 ⟨"JesterUnion$OrderText", "readOrder", "()Z"⟩ ∈ gw := gk4 (List.mem_of_getElem? (i := 12) (by decide +kernel)) (by decide +kernel)
theorem q4_14 : Cond.instanceMethod ⟨"JesterUnion$OrderText", "readOrder", "()Z"⟩ ∈ gw := gk4 (List.mem_of_getElem? (i := 14) (by decide +kernel)) (by decide +kernel)
theorem q4_15 : Cond.code ⟨"JesterUnion$OrderText", "readOrder", "()Z"⟩ prog_7_method_5_code 4 (Option.some FieldType.boolean) ∈ gw := gk4 (List.mem_of_getElem? (i := 15) (by decide +kernel)) (by decide +kernel)
theorem q4_16 : Cond.methodLink "JesterUnion$OrderText" 40 ⟨"java/lang/StringBuilder", "length", "()I"⟩ ∈ gw := gk4 (List.mem_of_getElem? (i := 16) (by decide +kernel)) (by decide +kernel)
theorem q4_17 : Cond.methodLink "JesterUnion$OrderText" 48 ⟨"java/lang/StringBuilder", "charAt", "(I)C"⟩ ∈ gw := gk4 (List.mem_of_getElem? (i := 17) (by decide +kernel)) (by decide +kernel)
theorem q4_18 : Cond.instanceMethod ⟨"java/lang/StringBuilder", "charAt", "(I)C"⟩ ∈ gw := gk4 (List.mem_of_getElem? (i := 18) (by decide +kernel)) (by decide +kernel)
theorem q4_19 : Cond.selects "java/lang/StringBuilder" ⟨"java/lang/StringBuilder", "charAt", "(I)C"⟩ ⟨"java/lang/StringBuilder", "charAt", "(I)C"⟩ ∈ gw := gk4 (List.mem_of_getElem? (i := 19) (by decide +kernel)) (by decide +kernel)
theorem q4_20 : Cond.code ⟨"java/lang/StringBuilder", "charAt", "(I)C"⟩ prog_15_method_88_code 2 (Option.some FieldType.char) ∈ gw := gk4 (List.mem_of_getElem? (i := 20) (by decide +kernel)) (by decide +kernel)
theorem q4_21 : Cond.methodLink "java/lang/StringBuilder" 329 ⟨"java/lang/AbstractStringBuilder", "charAt", "(I)C"⟩ ∈ gw := gk4 (List.mem_of_getElem? (i := 21) (by decide +kernel)) (by decide +kernel)
theorem q4_22 : Cond.instanceMethod ⟨"java/lang/AbstractStringBuilder", "charAt", "(I)C"⟩ ∈ gw := gk4 (List.mem_of_getElem? (i := 22) (by decide +kernel)) (by decide +kernel)
theorem q4_23 : Cond.code ⟨"java/lang/AbstractStringBuilder", "charAt", "(I)C"⟩ prog_10_method_14_code 5 (Option.some FieldType.char) ∈ gw := gk4 (List.mem_of_getElem? (i := 23) (by decide +kernel)) (by decide +kernel)
theorem q4_24 : Cond.methodLink "java/lang/AbstractStringBuilder" 138 ⟨"java/lang/Math", "min", "(II)I"⟩ ∈ gw := gk4 (List.mem_of_getElem? (i := 24) (by decide +kernel)) (by decide +kernel)
theorem q4_25 : Cond.methodLink "java/lang/AbstractStringBuilder" 144 ⟨"java/lang/String", "checkIndex", "(II)V"⟩ ∈ gw := gk4 (List.mem_of_getElem? (i := 25) (by decide +kernel)) (by decide +kernel)
theorem q4_26 : Cond.methodLink "java/lang/AbstractStringBuilder" 148 ⟨"java/lang/StringUTF16", "getChar", "([BI)C"⟩ ∈ gw := gk4 (List.mem_of_getElem? (i := 26) (by decide +kernel)) (by decide +kernel)
theorem q4_27 : Cond.static ⟨"java/lang/StringUTF16", "getChar", "([BI)C"⟩ ∈ gw := gk4 (List.mem_of_getElem? (i := 27) (by decide +kernel)) (by decide +kernel)
theorem q4_28 : Cond.code ⟨"java/lang/StringUTF16", "getChar", "([BI)C"⟩ prog_17_method_5_code 2 (Option.some FieldType.char) ∈ gw := gk4 (List.mem_of_getElem? (i := 28) (by decide +kernel)) (by decide +kernel)
theorem q4_29 : Cond.methodLink "JesterUnion$OrderText" 52 ⟨"JesterUnion$OrderText", "shapeOf", "(C)Ljava/lang/String;"⟩ ∈ gw := gk4 (List.mem_of_getElem? (i := 29) (by decide +kernel)) (by decide +kernel)
theorem q4_30 : Cond.static ⟨"JesterUnion$OrderText", "shapeOf", "(C)Ljava/lang/String;"⟩ ∈ gw := gk4 (List.mem_of_getElem? (i := 30) (by decide +kernel)) (by decide +kernel)
theorem q4_31 : Cond.code ⟨"JesterUnion$OrderText", "shapeOf", "(C)Ljava/lang/String;"⟩ prog_7_method_6_code 1 (Option.some (FieldType.object "java/lang/String")) ∈ gw := gk4 (List.mem_of_getElem? (i := 31) (by decide +kernel)) (by decide +kernel)
theorem q4_42 : Cond.methodLink "JesterUnion$OrderText" 56 ⟨"java/lang/String", "isEmpty", "()Z"⟩ ∈ gw := gk4 (List.mem_of_getElem? (i := 42) (by decide +kernel)) (by decide +kernel)
theorem q4_43 : Cond.instanceMethod ⟨"java/lang/String", "isEmpty", "()Z"⟩ ∈ gw := gk4 (List.mem_of_getElem? (i := 43) (by decide +kernel)) (by decide +kernel)
theorem q4_44 : Cond.selects "java/lang/String" ⟨"java/lang/String", "isEmpty", "()Z"⟩ ⟨"java/lang/String", "isEmpty", "()Z"⟩ ∈ gw := gk4 (List.mem_of_getElem? (i := 44) (by decide +kernel)) (by decide +kernel)
theorem q4_45 : Cond.code ⟨"java/lang/String", "isEmpty", "()Z"⟩ prog_14_method_55_code 1 (Option.some FieldType.boolean) ∈ gw := gk4 (List.mem_of_getElem? (i := 45) (by decide +kernel)) (by decide +kernel)
theorem q4_46 : Cond.methodLink "JesterUnion$OrderText" 61 ⟨"java/lang/String", "length", "()I"⟩ ∈ gw := gk4 (List.mem_of_getElem? (i := 46) (by decide +kernel)) (by decide +kernel)
theorem q4_47 : Cond.instanceMethod ⟨"java/lang/String", "length", "()I"⟩ ∈ gw := gk4 (List.mem_of_getElem? (i := 47) (by decide +kernel)) (by decide +kernel)
theorem q4_48 : Cond.selects "java/lang/String" ⟨"java/lang/String", "length", "()I"⟩ ⟨"java/lang/String", "length", "()I"⟩ ∈ gw := gk4 (List.mem_of_getElem? (i := 48) (by decide +kernel)) (by decide +kernel)
theorem q4_49 : Cond.code ⟨"java/lang/String", "length", "()I"⟩ prog_14_method_54_code 1 (Option.some FieldType.int) ∈ gw := gk4 (List.mem_of_getElem? (i := 49) (by decide +kernel)) (by decide +kernel)
theorem q4_50 : Cond.methodLink "java/lang/String" 335 ⟨"java/lang/String", "coder", "()B"⟩ ∈ gw := gk4 (List.mem_of_getElem? (i := 50) (by decide +kernel)) (by decide +kernel)
theorem q4_51 : Cond.instanceMethod ⟨"java/lang/String", "coder", "()B"⟩ ∈ gw := gk4 (List.mem_of_getElem? (i := 51) (by decide +kernel)) (by decide +kernel)
theorem q4_52 : Cond.selects "java/lang/String" ⟨"java/lang/String", "coder", "()B"⟩ ⟨"java/lang/String", "coder", "()B"⟩ ∈ gw := gk4 (List.mem_of_getElem? (i := 52) (by decide +kernel)) (by decide +kernel)
theorem q4_53 : Cond.code ⟨"java/lang/String", "coder", "()B"⟩ prog_14_method_152_code 1 (Option.some FieldType.byte) ∈ gw := gk4 (List.mem_of_getElem? (i := 53) (by decide +kernel)) (by decide +kernel)
theorem q4_54 : Cond.fieldLink "java/lang/String" 38 "java/lang/String" "COMPACT_STRINGS" "Z" ∈ gw := gk4 (List.mem_of_getElem? (i := 54) (by decide +kernel)) (by decide +kernel)
theorem q4_55 : Cond.methodLink "JesterUnion$OrderText" 62 ⟨"java/lang/String", "charAt", "(I)C"⟩ ∈ gw := gk4 (List.mem_of_getElem? (i := 55) (by decide +kernel)) (by decide +kernel)
theorem q4_56 : Cond.instanceMethod ⟨"java/lang/String", "charAt", "(I)C"⟩ ∈ gw := gk4 (List.mem_of_getElem? (i := 56) (by decide +kernel)) (by decide +kernel)
theorem q4_57 : Cond.selects "java/lang/String" ⟨"java/lang/String", "charAt", "(I)C"⟩ ⟨"java/lang/String", "charAt", "(I)C"⟩ ∈ gw := gk4 (List.mem_of_getElem? (i := 57) (by decide +kernel)) (by decide +kernel)
theorem q4_58 : Cond.code ⟨"java/lang/String", "charAt", "(I)C"⟩ prog_14_method_56_code 2 (Option.some FieldType.char) ∈ gw := gk4 (List.mem_of_getElem? (i := 58) (by decide +kernel)) (by decide +kernel)
theorem q4_59 : Cond.methodLink "java/lang/String" 492 ⟨"java/lang/String", "isLatin1", "()Z"⟩ ∈ gw := gk4 (List.mem_of_getElem? (i := 59) (by decide +kernel)) (by decide +kernel)
theorem q4_60 : Cond.instanceMethod ⟨"java/lang/String", "isLatin1", "()Z"⟩ ∈ gw := gk4 (List.mem_of_getElem? (i := 60) (by decide +kernel)) (by decide +kernel)
theorem q4_61 : Cond.selects "java/lang/String" ⟨"java/lang/String", "isLatin1", "()Z"⟩ ⟨"java/lang/String", "isLatin1", "()Z"⟩ ∈ gw := gk4 (List.mem_of_getElem? (i := 61) (by decide +kernel)) (by decide +kernel)
theorem q4_62 : Cond.code ⟨"java/lang/String", "isLatin1", "()Z"⟩ prog_14_method_154_code 1 (Option.some FieldType.boolean) ∈ gw := gk4 (List.mem_of_getElem? (i := 62) (by decide +kernel)) (by decide +kernel)
theorem q4_63 : Cond.methodLink "java/lang/String" 495 ⟨"java/lang/StringLatin1", "charAt", "([BI)C"⟩ ∈ gw := gk4 (List.mem_of_getElem? (i := 63) (by decide +kernel)) (by decide +kernel)
theorem q4_64 : Cond.static ⟨"java/lang/StringLatin1", "charAt", "([BI)C"⟩ ∈ gw := gk4 (List.mem_of_getElem? (i := 64) (by decide +kernel)) (by decide +kernel)
theorem q4_65 : Cond.code ⟨"java/lang/StringLatin1", "charAt", "([BI)C"⟩ prog_16_method_2_code 2 (Option.some FieldType.char) ∈ gw := gk4 (List.mem_of_getElem? (i := 65) (by decide +kernel)) (by decide +kernel)
theorem q4_66 : Cond.methodLink "java/lang/StringLatin1" 9 ⟨"java/lang/String", "checkIndex", "(II)V"⟩ ∈ gw := gk4 (List.mem_of_getElem? (i := 66) (by decide +kernel)) (by decide +kernel)
theorem q4_67 : Cond.methodLink "java/lang/String" 498 ⟨"java/lang/StringUTF16", "charAt", "([BI)C"⟩ ∈ gw := gk4 (List.mem_of_getElem? (i := 67) (by decide +kernel)) (by decide +kernel)
theorem q4_68 : Cond.static ⟨"java/lang/StringUTF16", "charAt", "([BI)C"⟩ ∈ gw := gk4 (List.mem_of_getElem? (i := 68) (by decide +kernel)) (by decide +kernel)
theorem q4_69 : Cond.code ⟨"java/lang/StringUTF16", "charAt", "([BI)C"⟩ prog_17_method_83_code 2 (Option.some FieldType.char) ∈ gw := gk4 (List.mem_of_getElem? (i := 69) (by decide +kernel)) (by decide +kernel)
theorem q4_70 : Cond.methodLink "java/lang/StringUTF16" 71 ⟨"java/lang/StringUTF16", "getChar", "([BI)C"⟩ ∈ gw := gk4 (List.mem_of_getElem? (i := 70) (by decide +kernel)) (by decide +kernel)
theorem q4_71 : Cond.methodLink "JesterUnion$OrderText" 63 ⟨"JesterUnion$OrderText", "readPart", "(C)Z"⟩ ∈ gw := gk4 (List.mem_of_getElem? (i := 71) (by decide +kernel)) (by decide +kernel)
theorem q4_73 : Cond.instanceMethod ⟨"JesterUnion$OrderText", "readPart", "(C)Z"⟩ ∈ gw := gk4 (List.mem_of_getElem? (i := 73) (by decide +kernel)) (by decide +kernel)
theorem q4_74 : Cond.code ⟨"JesterUnion$OrderText", "readPart", "(C)Z"⟩ prog_7_method_7_code 2 (Option.some FieldType.boolean) ∈ gw := gk4 (List.mem_of_getElem? (i := 74) (by decide +kernel)) (by decide +kernel)
theorem q4_75 : Cond.methodLink "JesterUnion$OrderText" 86 ⟨"JesterUnion$OrderText", "readNumber", "(I)Z"⟩ ∈ gw := gk4 (List.mem_of_getElem? (i := 75) (by decide +kernel)) (by decide +kernel)
theorem q4_77 : Cond.instanceMethod ⟨"JesterUnion$OrderText", "readNumber", "(I)Z"⟩ ∈ gw := gk4 (List.mem_of_getElem? (i := 77) (by decide +kernel)) (by decide +kernel)
theorem q4_78 : Cond.code ⟨"JesterUnion$OrderText", "readNumber", "(I)Z"⟩ prog_7_method_8_code 4 (Option.some FieldType.boolean) ∈ gw := gk4 (List.mem_of_getElem? (i := 78) (by decide +kernel)) (by decide +kernel)
theorem q4_79 : Cond.methodLink "JesterUnion$OrderText" 93 ⟨"JesterUnion$OrderText", "isDigitAhead", "()Z"⟩ ∈ gw := gk4 (List.mem_of_getElem? (i := 79) (by decide +kernel)) (by decide +kernel)
theorem q4_81 : Cond.instanceMethod ⟨"JesterUnion$OrderText", "isDigitAhead", "()Z"⟩ ∈ gw := gk4 (List.mem_of_getElem? (i := 81) (by decide +kernel)) (by decide +kernel)
theorem q4_82 : Cond.code ⟨"JesterUnion$OrderText", "isDigitAhead", "()Z"⟩ prog_7_method_9_code 1 (Option.some FieldType.boolean) ∈ gw := gk4 (List.mem_of_getElem? (i := 82) (by decide +kernel)) (by decide +kernel)
theorem q4_83 : Cond.methodLink "JesterUnion$OrderText" 96 ⟨"JesterUnion$OrderText", "keepNumber", "(I)V"⟩ ∈ gw := gk4 (List.mem_of_getElem? (i := 83) (by decide +kernel)) (by decide +kernel)
theorem q4_85 : Cond.instanceMethod ⟨"JesterUnion$OrderText", "keepNumber", "(I)V"⟩ ∈ gw := gk4 (List.mem_of_getElem? (i := 85) (by decide +kernel)) (by decide +kernel)
theorem q4_86 : Cond.code ⟨"JesterUnion$OrderText", "keepNumber", "(I)V"⟩ prog_7_method_12_code 2 (Option.none : Option FieldType) ∈ gw := gk4 (List.mem_of_getElem? (i := 86) (by decide +kernel)) (by decide +kernel)
theorem q4_87 : Cond.methodLink "JesterUnion$OrderText" 90 ⟨"JesterUnion$OrderText", "readPlusOrMinus", "()Z"⟩ ∈ gw := gk4 (List.mem_of_getElem? (i := 87) (by decide +kernel)) (by decide +kernel)
theorem q4_89 : Cond.instanceMethod ⟨"JesterUnion$OrderText", "readPlusOrMinus", "()Z"⟩ ∈ gw := gk4 (List.mem_of_getElem? (i := 89) (by decide +kernel)) (by decide +kernel)
theorem q4_90 : Cond.code ⟨"JesterUnion$OrderText", "readPlusOrMinus", "()Z"⟩ prog_7_method_10_code 1 (Option.some FieldType.boolean) ∈ gw := gk4 (List.mem_of_getElem? (i := 90) (by decide +kernel)) (by decide +kernel)
theorem q4_91 : Cond.methodLink "JesterUnion$OrderText" 44 ⟨"JesterUnion$OrderText", "readSign", "(C)Z"⟩ ∈ gw := gk4 (List.mem_of_getElem? (i := 91) (by decide +kernel)) (by decide +kernel)
theorem q4_93 : Cond.instanceMethod ⟨"JesterUnion$OrderText", "readSign", "(C)Z"⟩ ∈ gw := gk4 (List.mem_of_getElem? (i := 93) (by decide +kernel)) (by decide +kernel)
theorem q4_94 : Cond.code ⟨"JesterUnion$OrderText", "readSign", "(C)Z"⟩ prog_7_method_11_code 2 (Option.some FieldType.boolean) ∈ gw := gk4 (List.mem_of_getElem? (i := 94) (by decide +kernel)) (by decide +kernel)
theorem q4_95 : Cond.methodLink "JesterUnion" 232 ⟨"java/lang/StringBuilder", "setLength", "(I)V"⟩ ∈ gw := gk4 (List.mem_of_getElem? (i := 95) (by decide +kernel)) (by decide +kernel)
theorem q4_96 : Cond.instanceMethod ⟨"java/lang/StringBuilder", "setLength", "(I)V"⟩ ∈ gw := gk4 (List.mem_of_getElem? (i := 96) (by decide +kernel)) (by decide +kernel)
theorem q4_97 : Cond.selects "java/lang/StringBuilder" ⟨"java/lang/StringBuilder", "setLength", "(I)V"⟩ ⟨"java/lang/StringBuilder", "setLength", "(I)V"⟩ ∈ gw := gk4 (List.mem_of_getElem? (i := 97) (by decide +kernel)) (by decide +kernel)
theorem q4_98 : Cond.code ⟨"java/lang/StringBuilder", "setLength", "(I)V"⟩ prog_15_method_89_code 2 (Option.none : Option FieldType) ∈ gw := gk4 (List.mem_of_getElem? (i := 98) (by decide +kernel)) (by decide +kernel)
theorem q4_99 : Cond.methodLink "java/lang/StringBuilder" 333 ⟨"java/lang/AbstractStringBuilder", "setLength", "(I)V"⟩ ∈ gw := gk4 (List.mem_of_getElem? (i := 99) (by decide +kernel)) (by decide +kernel)
theorem q4_100 : Cond.instanceMethod ⟨"java/lang/AbstractStringBuilder", "setLength", "(I)V"⟩ ∈ gw := gk4 (List.mem_of_getElem? (i := 100) (by decide +kernel)) (by decide +kernel)
theorem q4_101 : Cond.code ⟨"java/lang/AbstractStringBuilder", "setLength", "(I)V"⟩ prog_10_method_13_code 2 (Option.none : Option FieldType) ∈ gw := gk4 (List.mem_of_getElem? (i := 101) (by decide +kernel)) (by decide +kernel)
theorem q4_102 : Cond.methodLink "java/lang/AbstractStringBuilder" 133 ⟨"java/lang/StringLatin1", "fillNull", "([BII)V"⟩ ∈ gw := gk4 (List.mem_of_getElem? (i := 102) (by decide +kernel)) (by decide +kernel)
theorem q4_103 : Cond.static ⟨"java/lang/StringLatin1", "fillNull", "([BII)V"⟩ ∈ gw := gk4 (List.mem_of_getElem? (i := 103) (by decide +kernel)) (by decide +kernel)
theorem q4_104 : Cond.code ⟨"java/lang/StringLatin1", "fillNull", "([BII)V"⟩ prog_16_method_48_code 3 (Option.none : Option FieldType) ∈ gw := gk4 (List.mem_of_getElem? (i := 104) (by decide +kernel)) (by decide +kernel)
theorem q4_105 : Cond.methodLink "java/lang/StringLatin1" 236 ⟨"java/util/Arrays", "fill", "([BIIB)V"⟩ ∈ gw := gk4 (List.mem_of_getElem? (i := 105) (by decide +kernel)) (by decide +kernel)
theorem q4_106 : Cond.static ⟨"java/util/Arrays", "fill", "([BIIB)V"⟩ ∈ gw := gk4 (List.mem_of_getElem? (i := 106) (by decide +kernel)) (by decide +kernel)
theorem q4_107 : Cond.code ⟨"java/util/Arrays", "fill", "([BIIB)V"⟩ prog_19_method_110_code 5 (Option.none : Option FieldType) ∈ gw := gk4 (List.mem_of_getElem? (i := 107) (by decide +kernel)) (by decide +kernel)
theorem q4_108 : Cond.methodLink "java/util/Arrays" 13 ⟨"java/util/Arrays", "rangeCheck", "(III)V"⟩ ∈ gw := gk4 (List.mem_of_getElem? (i := 108) (by decide +kernel)) (by decide +kernel)
theorem q4_109 : Cond.static ⟨"java/util/Arrays", "rangeCheck", "(III)V"⟩ ∈ gw := gk4 (List.mem_of_getElem? (i := 109) (by decide +kernel)) (by decide +kernel)
theorem q4_110 : Cond.code ⟨"java/util/Arrays", "rangeCheck", "(III)V"⟩ prog_19_method_30_code 3 (Option.none : Option FieldType) ∈ gw := gk4 (List.mem_of_getElem? (i := 110) (by decide +kernel)) (by decide +kernel)
theorem q4_111 : Cond.methodLink "java/lang/AbstractStringBuilder" 137 ⟨"java/lang/StringUTF16", "fillNull", "([BII)V"⟩ ∈ gw := gk4 (List.mem_of_getElem? (i := 111) (by decide +kernel)) (by decide +kernel)
theorem q4_112 : Cond.static ⟨"java/lang/StringUTF16", "fillNull", "([BII)V"⟩ ∈ gw := gk4 (List.mem_of_getElem? (i := 112) (by decide +kernel)) (by decide +kernel)
theorem q4_113 : Cond.code ⟨"java/lang/StringUTF16", "fillNull", "([BII)V"⟩ prog_17_method_70_code 3 (Option.none : Option FieldType) ∈ gw := gk4 (List.mem_of_getElem? (i := 113) (by decide +kernel)) (by decide +kernel)
theorem q4_114 : Cond.methodLink "java/lang/StringUTF16" 380 ⟨"java/util/Arrays", "fill", "([BIIB)V"⟩ ∈ gw := gk4 (List.mem_of_getElem? (i := 114) (by decide +kernel)) (by decide +kernel)
theorem q4_115 : Cond.methodLink "JesterUnion" 240 ⟨"JesterUnion", "carryOrderOut", "(I)I"⟩ ∈ gw := gk4 (List.mem_of_getElem? (i := 115) (by decide +kernel)) (by decide +kernel)
theorem q4_117 : Cond.instanceMethod ⟨"JesterUnion", "carryOrderOut", "(I)I"⟩ ∈ gw := gk4 (List.mem_of_getElem? (i := 117) (by decide +kernel)) (by decide +kernel)
theorem q4_118 : Cond.code ⟨"JesterUnion", "carryOrderOut", "(I)I"⟩ prog_1_method_46_code 6 (Option.some FieldType.int) ∈ gw := gk4 (List.mem_of_getElem? (i := 118) (by decide +kernel)) (by decide +kernel)
theorem q4_119 : Cond.methodLink "JesterUnion" 311 ⟨"JesterUnion$OrderText", "number", "(II)I"⟩ ∈ gw := gk4 (List.mem_of_getElem? (i := 119) (by decide +kernel)) (by decide +kernel)
theorem q4_120 : Cond.instanceMethod ⟨"JesterUnion$OrderText", "number", "(II)I"⟩ ∈ gw := gk4 (List.mem_of_getElem? (i := 120) (by decide +kernel)) (by decide +kernel)
theorem q4_121 : Cond.selects "JesterUnion$OrderText" ⟨"JesterUnion$OrderText", "number", "(II)I"⟩ ⟨"JesterUnion$OrderText", "number", "(II)I"⟩ ∈ gw := gk4 (List.mem_of_getElem? (i := 121) (by decide +kernel)) (by decide +kernel)
theorem q4_122 : Cond.code ⟨"JesterUnion$OrderText", "number", "(II)I"⟩ prog_7_method_3_code 3 (Option.some FieldType.int) ∈ gw := gk4 (List.mem_of_getElem? (i := 122) (by decide +kernel)) (by decide +kernel)
theorem q4_123 : Cond.methodLink "JesterUnion" 314 ⟨"JesterUnion$OrderText", "letter", "(I)C"⟩ ∈ gw := gk4 (List.mem_of_getElem? (i := 123) (by decide +kernel)) (by decide +kernel)
theorem q4_124 : Cond.instanceMethod ⟨"JesterUnion$OrderText", "letter", "(I)C"⟩ ∈ gw := gk4 (List.mem_of_getElem? (i := 124) (by decide +kernel)) (by decide +kernel)
theorem q4_125 : Cond.selects "JesterUnion$OrderText" ⟨"JesterUnion$OrderText", "letter", "(I)C"⟩ ⟨"JesterUnion$OrderText", "letter", "(I)C"⟩ ∈ gw := gk4 (List.mem_of_getElem? (i := 125) (by decide +kernel)) (by decide +kernel)
theorem q4_126 : Cond.code ⟨"JesterUnion$OrderText", "letter", "(I)C"⟩ prog_7_method_2_code 2 (Option.some FieldType.char) ∈ gw := gk4 (List.mem_of_getElem? (i := 126) (by decide +kernel)) (by decide +kernel)
theorem q4_127 : Cond.methodLink "JesterUnionLaw" 114 ⟨"JesterUnion", "tell", "(I)I"⟩ ∈ gw := gk4 (List.mem_of_getElem? (i := 127) (by decide +kernel)) (by decide +kernel)
theorem q4_128 : Cond.instanceMethod ⟨"JesterUnion", "tell", "(I)I"⟩ ∈ gw := gk4 (List.mem_of_getElem? (i := 128) (by decide +kernel)) (by decide +kernel)
theorem q4_129 : Cond.selects "JesterUnion" ⟨"JesterUnion", "tell", "(I)I"⟩ ⟨"JesterUnion", "tell", "(I)I"⟩ ∈ gw := gk4 (List.mem_of_getElem? (i := 129) (by decide +kernel)) (by decide +kernel)
theorem q4_130 : Cond.code ⟨"JesterUnion", "tell", "(I)I"⟩ prog_1_method_26_code 3 (Option.some FieldType.int) ∈ gw := gk4 (List.mem_of_getElem? (i := 130) (by decide +kernel)) (by decide +kernel)
theorem q4_131 : Cond.methodLink "JesterUnion" 246 ⟨"java/lang/StringBuilder", "append", "(I)Ljava/lang/StringBuilder;"⟩ ∈ gw := gk4 (List.mem_of_getElem? (i := 131) (by decide +kernel)) (by decide +kernel)
theorem q4_132 : Cond.instanceMethod ⟨"java/lang/StringBuilder", "append", "(I)Ljava/lang/StringBuilder;"⟩ ∈ gw := gk4 (List.mem_of_getElem? (i := 132) (by decide +kernel)) (by decide +kernel)
theorem q4_133 : Cond.selects "java/lang/StringBuilder" ⟨"java/lang/StringBuilder", "append", "(I)Ljava/lang/StringBuilder;"⟩ ⟨"java/lang/StringBuilder", "append", "(I)Ljava/lang/StringBuilder;"⟩ ∈ gw := gk4 (List.mem_of_getElem? (i := 133) (by decide +kernel)) (by decide +kernel)
theorem q4_134 : Cond.code ⟨"java/lang/StringBuilder", "append", "(I)Ljava/lang/StringBuilder;"⟩ prog_15_method_15_code 2 (Option.some (FieldType.object "java/lang/StringBuilder")) ∈ gw := gk4 (List.mem_of_getElem? (i := 134) (by decide +kernel)) (by decide +kernel)
theorem q4_135 : Cond.methodLink "java/lang/StringBuilder" 53 ⟨"java/lang/AbstractStringBuilder", "append", "(I)Ljava/lang/AbstractStringBuilder;"⟩ ∈ gw := gk4 (List.mem_of_getElem? (i := 135) (by decide +kernel)) (by decide +kernel)
theorem q4_136 : Cond.instanceMethod ⟨"java/lang/AbstractStringBuilder", "append", "(I)Ljava/lang/AbstractStringBuilder;"⟩ ∈ gw := gk4 (List.mem_of_getElem? (i := 136) (by decide +kernel)) (by decide +kernel)
theorem q4_137 : Cond.code ⟨"java/lang/AbstractStringBuilder", "append", "(I)Ljava/lang/AbstractStringBuilder;"⟩ prog_10_method_32_code 4 (Option.some (FieldType.object "java/lang/AbstractStringBuilder")) ∈ gw := gk4 (List.mem_of_getElem? (i := 137) (by decide +kernel)) (by decide +kernel)
theorem q4_138 : Cond.methodLink "java/lang/AbstractStringBuilder" 245 ⟨"java/lang/Integer", "stringSize", "(I)I"⟩ ∈ gw := gk4 (List.mem_of_getElem? (i := 138) (by decide +kernel)) (by decide +kernel)
theorem q4_139 : Cond.static ⟨"java/lang/Integer", "stringSize", "(I)I"⟩ ∈ gw := gk4 (List.mem_of_getElem? (i := 139) (by decide +kernel)) (by decide +kernel)
theorem q4_140 : Cond.code ⟨"java/lang/Integer", "stringSize", "(I)I"⟩ prog_12_method_13_code 4 (Option.some FieldType.int) ∈ gw := gk4 (List.mem_of_getElem? (i := 140) (by decide +kernel)) (by decide +kernel)
theorem q4_141 : Cond.methodLink "java/lang/AbstractStringBuilder" 248 ⟨"java/lang/Integer", "getChars", "(II[B)I"⟩ ∈ gw := gk4 (List.mem_of_getElem? (i := 141) (by decide +kernel)) (by decide +kernel)
theorem q4_142 : Cond.static ⟨"java/lang/Integer", "getChars", "(II[B)I"⟩ ∈ gw := gk4 (List.mem_of_getElem? (i := 142) (by decide +kernel)) (by decide +kernel)
theorem q4_143 : Cond.code ⟨"java/lang/Integer", "getChars", "(II[B)I"⟩ prog_12_method_12_code 7 (Option.some FieldType.int) ∈ gw := gk4 (List.mem_of_getElem? (i := 143) (by decide +kernel)) (by decide +kernel)
theorem q4_144 : Cond.fieldLink "java/lang/Integer" 83 "java/lang/Integer" "DigitOnes" "[B" ∈ gw := gk4 (List.mem_of_getElem? (i := 144) (by decide +kernel)) (by decide +kernel)
theorem q4_146 : Cond.fieldLink "java/lang/Integer" 87 "java/lang/Integer" "DigitTens" "[B" ∈ gw := gk4 (List.mem_of_getElem? (i := 146) (by decide +kernel)) (by decide +kernel)
theorem q4_148 : Cond.methodLink "java/lang/AbstractStringBuilder" 251 ⟨"java/lang/StringUTF16", "getChars", "(III[B)I"⟩ ∈ gw := gk4 (List.mem_of_getElem? (i := 148) (by decide +kernel)) (by decide +kernel)
theorem q4_149 : Cond.static ⟨"java/lang/StringUTF16", "getChars", "(III[B)I"⟩ ∈ gw := gk4 (List.mem_of_getElem? (i := 149) (by decide +kernel)) (by decide +kernel)
theorem q4_150 : Cond.code ⟨"java/lang/StringUTF16", "getChars", "(III[B)I"⟩ prog_17_method_77_code 5 (Option.some FieldType.int) ∈ gw := gk4 (List.mem_of_getElem? (i := 150) (by decide +kernel)) (by decide +kernel)
theorem q4_151 : Cond.methodLink "java/lang/StringUTF16" 96 ⟨"java/lang/StringUTF16", "checkBoundsBeginEnd", "(II[B)V"⟩ ∈ gw := gk4 (List.mem_of_getElem? (i := 151) (by decide +kernel)) (by decide +kernel)
theorem q4_152 : Cond.static ⟨"java/lang/StringUTF16", "checkBoundsBeginEnd", "(II[B)V"⟩ ∈ gw := gk4 (List.mem_of_getElem? (i := 152) (by decide +kernel)) (by decide +kernel)
theorem q4_153 : Cond.code ⟨"java/lang/StringUTF16", "checkBoundsBeginEnd", "(II[B)V"⟩ prog_17_method_93_code 3 (Option.none : Option FieldType) ∈ gw := gk4 (List.mem_of_getElem? (i := 153) (by decide +kernel)) (by decide +kernel)
theorem q4_154 : Cond.methodLink "java/lang/StringUTF16" 241 ⟨"java/lang/String", "checkBoundsBeginEnd", "(III)V"⟩ ∈ gw := gk4 (List.mem_of_getElem? (i := 154) (by decide +kernel)) (by decide +kernel)
theorem q4_155 : Cond.static ⟨"java/lang/String", "checkBoundsBeginEnd", "(III)V"⟩ ∈ gw := gk4 (List.mem_of_getElem? (i := 155) (by decide +kernel)) (by decide +kernel)
theorem q4_156 : Cond.code ⟨"java/lang/String", "checkBoundsBeginEnd", "(III)V"⟩ prog_14_method_158_code 3 (Option.none : Option FieldType) ∈ gw := gk4 (List.mem_of_getElem? (i := 156) (by decide +kernel)) (by decide +kernel)
theorem q4_157 : Cond.methodLink "java/lang/String" 1062 ⟨"jdk/internal/util/Preconditions", "checkFromToIndex", "(IIILjava/util/function/BiFunction;)I"⟩ ∈ gw := gk4 (List.mem_of_getElem? (i := 157) (by decide +kernel)) (by decide +kernel)
theorem q4_158 : Cond.static ⟨"jdk/internal/util/Preconditions", "checkFromToIndex", "(IIILjava/util/function/BiFunction;)I"⟩ ∈ gw := gk4 (List.mem_of_getElem? (i := 158) (by decide +kernel)) (by decide +kernel)
theorem q4_159 : Cond.code ⟨"jdk/internal/util/Preconditions", "checkFromToIndex", "(IIILjava/util/function/BiFunction;)I"⟩ prog_21_method_12_code 4 (Option.some FieldType.int) ∈ gw := gk4 (List.mem_of_getElem? (i := 159) (by decide +kernel)) (by decide +kernel)
theorem q4_160 : Cond.methodLink "java/lang/StringUTF16" 393 ⟨"java/lang/StringUTF16", "getChars", "(II[B)I"⟩ ∈ gw := gk4 (List.mem_of_getElem? (i := 160) (by decide +kernel)) (by decide +kernel)
theorem q4_161 : Cond.static ⟨"java/lang/StringUTF16", "getChars", "(II[B)I"⟩ ∈ gw := gk4 (List.mem_of_getElem? (i := 161) (by decide +kernel)) (by decide +kernel)
theorem q4_162 : Cond.code ⟨"java/lang/StringUTF16", "getChars", "(II[B)I"⟩ prog_17_method_89_code 7 (Option.some FieldType.int) ∈ gw := gk4 (List.mem_of_getElem? (i := 162) (by decide +kernel)) (by decide +kernel)
theorem q4_163 : Cond.fieldLink "java/lang/StringUTF16" 403 "java/lang/Integer" "DigitOnes" "[B" ∈ gw := gk4 (List.mem_of_getElem? (i := 163) (by decide +kernel)) (by decide +kernel)
theorem q4_164 : Cond.fieldLink "java/lang/StringUTF16" 407 "java/lang/Integer" "DigitTens" "[B" ∈ gw := gk4 (List.mem_of_getElem? (i := 164) (by decide +kernel)) (by decide +kernel)
theorem q4_165 : Cond.methodLink "JesterUnion" 249 ⟨"JesterUnion", "write", "(CI)V"⟩ ∈ gw := gk4 (List.mem_of_getElem? (i := 165) (by decide +kernel)) (by decide +kernel)
theorem q4_167 : Cond.instanceMethod ⟨"JesterUnion", "write", "(CI)V"⟩ ∈ gw := gk4 (List.mem_of_getElem? (i := 167) (by decide +kernel)) (by decide +kernel)
theorem q4_168 : Cond.code ⟨"JesterUnion", "write", "(CI)V"⟩ prog_1_method_52_code 3 (Option.none : Option FieldType) ∈ gw := gk4 (List.mem_of_getElem? (i := 168) (by decide +kernel)) (by decide +kernel)
theorem q4_169 : Cond.methodLink "JesterUnionLaw" 118 ⟨"JesterUnion", "tellBookings", "()I"⟩ ∈ gw := gk4 (List.mem_of_getElem? (i := 169) (by decide +kernel)) (by decide +kernel)
theorem q4_170 : Cond.instanceMethod ⟨"JesterUnion", "tellBookings", "()I"⟩ ∈ gw := gk4 (List.mem_of_getElem? (i := 170) (by decide +kernel)) (by decide +kernel)
theorem q4_171 : Cond.selects "JesterUnion" ⟨"JesterUnion", "tellBookings", "()I"⟩ ⟨"JesterUnion", "tellBookings", "()I"⟩ ∈ gw := gk4 (List.mem_of_getElem? (i := 171) (by decide +kernel)) (by decide +kernel)
theorem q4_172 : Cond.code ⟨"JesterUnion", "tellBookings", "()I"⟩ prog_1_method_27_code 2 (Option.some FieldType.int) ∈ gw := gk4 (List.mem_of_getElem? (i := 172) (by decide +kernel)) (by decide +kernel)
theorem q4_173 : Cond.methodLink "JesterUnionLaw" 122 ⟨"JesterUnion", "character", "(I)I"⟩ ∈ gw := gk4 (List.mem_of_getElem? (i := 173) (by decide +kernel)) (by decide +kernel)
theorem q4_174 : Cond.instanceMethod ⟨"JesterUnion", "character", "(I)I"⟩ ∈ gw := gk4 (List.mem_of_getElem? (i := 174) (by decide +kernel)) (by decide +kernel)
theorem q4_175 : Cond.selects "JesterUnion" ⟨"JesterUnion", "character", "(I)I"⟩ ⟨"JesterUnion", "character", "(I)I"⟩ ∈ gw := gk4 (List.mem_of_getElem? (i := 175) (by decide +kernel)) (by decide +kernel)
theorem q4_176 : Cond.code ⟨"JesterUnion", "character", "(I)I"⟩ prog_1_method_28_code 2 (Option.some FieldType.int) ∈ gw := gk4 (List.mem_of_getElem? (i := 176) (by decide +kernel)) (by decide +kernel)
theorem q4_177 : Cond.methodLink "JesterUnion" 253 ⟨"java/lang/StringBuilder", "charAt", "(I)C"⟩ ∈ gw := gk4 (List.mem_of_getElem? (i := 177) (by decide +kernel)) (by decide +kernel)
theorem q4_178 : Cond.methodLink "JesterUnionLaw" 126 ⟨"JesterUnion", "reason", "(Z)I"⟩ ∈ gw := gk4 (List.mem_of_getElem? (i := 178) (by decide +kernel)) (by decide +kernel)
theorem q4_179 : Cond.instanceMethod ⟨"JesterUnion", "reason", "(Z)I"⟩ ∈ gw := gk4 (List.mem_of_getElem? (i := 179) (by decide +kernel)) (by decide +kernel)
theorem q4_180 : Cond.selects "JesterUnion" ⟨"JesterUnion", "reason", "(Z)I"⟩ ⟨"JesterUnion", "reason", "(Z)I"⟩ ∈ gw := gk4 (List.mem_of_getElem? (i := 180) (by decide +kernel)) (by decide +kernel)
theorem q4_181 : Cond.code ⟨"JesterUnion", "reason", "(Z)I"⟩ prog_1_method_29_code 2 (Option.some FieldType.int) ∈ gw := gk4 (List.mem_of_getElem? (i := 181) (by decide +kernel)) (by decide +kernel)
theorem q4_182 : Cond.methodLink "JesterUnionLaw" 131 ⟨"JesterUnion", "account", "(I)I"⟩ ∈ gw := gk4 (List.mem_of_getElem? (i := 182) (by decide +kernel)) (by decide +kernel)
theorem q4_183 : Cond.instanceMethod ⟨"JesterUnion", "account", "(I)I"⟩ ∈ gw := gk4 (List.mem_of_getElem? (i := 183) (by decide +kernel)) (by decide +kernel)
theorem q4_184 : Cond.selects "JesterUnion" ⟨"JesterUnion", "account", "(I)I"⟩ ⟨"JesterUnion", "account", "(I)I"⟩ ∈ gw := gk4 (List.mem_of_getElem? (i := 184) (by decide +kernel)) (by decide +kernel)
theorem q4_185 : Cond.code ⟨"JesterUnion", "account", "(I)I"⟩ prog_1_method_30_code 2 (Option.some FieldType.int) ∈ gw := gk4 (List.mem_of_getElem? (i := 185) (by decide +kernel)) (by decide +kernel)
theorem q4_186 : Cond.methodLink "JesterUnionLaw" 135 ⟨"JesterUnion", "isBalanced", "()I"⟩ ∈ gw := gk4 (List.mem_of_getElem? (i := 186) (by decide +kernel)) (by decide +kernel)
theorem q4_187 : Cond.instanceMethod ⟨"JesterUnion", "isBalanced", "()I"⟩ ∈ gw := gk4 (List.mem_of_getElem? (i := 187) (by decide +kernel)) (by decide +kernel)
theorem q4_188 : Cond.selects "JesterUnion" ⟨"JesterUnion", "isBalanced", "()I"⟩ ⟨"JesterUnion", "isBalanced", "()I"⟩ ∈ gw := gk4 (List.mem_of_getElem? (i := 188) (by decide +kernel)) (by decide +kernel)
theorem q4_189 : Cond.code ⟨"JesterUnion", "isBalanced", "()I"⟩ prog_1_method_31_code 2 (Option.some FieldType.int) ∈ gw := gk4 (List.mem_of_getElem? (i := 189) (by decide +kernel)) (by decide +kernel)
theorem q4_190 : Cond.methodLink "JesterUnion" 275 ⟨"JesterUnion", "areCoinsAccountedFor", "()Z"⟩ ∈ gw := gk4 (List.mem_of_getElem? (i := 190) (by decide +kernel)) (by decide +kernel)
theorem q4_192 : Cond.instanceMethod ⟨"JesterUnion", "areCoinsAccountedFor", "()Z"⟩ ∈ gw := gk4 (List.mem_of_getElem? (i := 192) (by decide +kernel)) (by decide +kernel)
theorem q4_193 : Cond.code ⟨"JesterUnion", "areCoinsAccountedFor", "()Z"⟩ prog_1_method_49_code 3 (Option.some FieldType.boolean) ∈ gw := gk4 (List.mem_of_getElem? (i := 193) (by decide +kernel)) (by decide +kernel)
theorem q4_194 : Cond.methodLink "JesterUnion" 278 ⟨"JesterUnion", "areTellingsAccountedFor", "()Z"⟩ ∈ gw := gk4 (List.mem_of_getElem? (i := 194) (by decide +kernel)) (by decide +kernel)
theorem q4_196 : Cond.instanceMethod ⟨"JesterUnion", "areTellingsAccountedFor", "()Z"⟩ ∈ gw := gk4 (List.mem_of_getElem? (i := 196) (by decide +kernel)) (by decide +kernel)
theorem q4_197 : Cond.code ⟨"JesterUnion", "areTellingsAccountedFor", "()Z"⟩ prog_1_method_50_code 3 (Option.some FieldType.boolean) ∈ gw := gk4 (List.mem_of_getElem? (i := 197) (by decide +kernel)) (by decide +kernel)
theorem q4_198 : Cond.methodLink "JesterUnion" 281 ⟨"JesterUnion", "areBestsTheSame", "()Z"⟩ ∈ gw := gk4 (List.mem_of_getElem? (i := 198) (by decide +kernel)) (by decide +kernel)
theorem q4_200 : Cond.instanceMethod ⟨"JesterUnion", "areBestsTheSame", "()Z"⟩ ∈ gw := gk4 (List.mem_of_getElem? (i := 200) (by decide +kernel)) (by decide +kernel)
theorem q4_201 : Cond.code ⟨"JesterUnion", "areBestsTheSame", "()Z"⟩ prog_1_method_51_code 3 (Option.some FieldType.boolean) ∈ gw := gk4 (List.mem_of_getElem? (i := 201) (by decide +kernel)) (by decide +kernel)
theorem q4_202 : Cond.methodLink "JesterUnionLaw" 139 ⟨"JesterUnion", "meanWit", "()D"⟩ ∈ gw := gk4 (List.mem_of_getElem? (i := 202) (by decide +kernel)) (by decide +kernel)
theorem q4_203 : Cond.instanceMethod ⟨"JesterUnion", "meanWit", "()D"⟩ ∈ gw := gk4 (List.mem_of_getElem? (i := 203) (by decide +kernel)) (by decide +kernel)
theorem q4_204 : Cond.selects "JesterUnion" ⟨"JesterUnion", "meanWit", "()D"⟩ ⟨"JesterUnion", "meanWit", "()D"⟩ ∈ gw := gk4 (List.mem_of_getElem? (i := 204) (by decide +kernel)) (by decide +kernel)
theorem q4_205 : Cond.code ⟨"JesterUnion", "meanWit", "()D"⟩ prog_1_method_32_code 1 (Option.some FieldType.double) ∈ gw := gk4 (List.mem_of_getElem? (i := 205) (by decide +kernel)) (by decide +kernel)
theorem q4_206 : Cond.methodLink "JesterUnionLaw" 144 ⟨"JesterUnion", "slipShare", "()F"⟩ ∈ gw := gk4 (List.mem_of_getElem? (i := 206) (by decide +kernel)) (by decide +kernel)
theorem q4_207 : Cond.instanceMethod ⟨"JesterUnion", "slipShare", "()F"⟩ ∈ gw := gk4 (List.mem_of_getElem? (i := 207) (by decide +kernel)) (by decide +kernel)
theorem q4_208 : Cond.selects "JesterUnion" ⟨"JesterUnion", "slipShare", "()F"⟩ ⟨"JesterUnion", "slipShare", "()F"⟩ ∈ gw := gk4 (List.mem_of_getElem? (i := 208) (by decide +kernel)) (by decide +kernel)
theorem q4_209 : Cond.code ⟨"JesterUnion", "slipShare", "()F"⟩ prog_1_method_33_code 2 (Option.some FieldType.float) ∈ gw := gk4 (List.mem_of_getElem? (i := 209) (by decide +kernel)) (by decide +kernel)
theorem q4_210 : Cond.methodLink "JesterUnionLaw" 149 ⟨"JesterUnion", "undo", "()I"⟩ ∈ gw := gk4 (List.mem_of_getElem? (i := 210) (by decide +kernel)) (by decide +kernel)
theorem q4_211 : Cond.instanceMethod ⟨"JesterUnion", "undo", "()I"⟩ ∈ gw := gk4 (List.mem_of_getElem? (i := 211) (by decide +kernel)) (by decide +kernel)
theorem q4_212 : Cond.selects "JesterUnion" ⟨"JesterUnion", "undo", "()I"⟩ ⟨"JesterUnion", "undo", "()I"⟩ ∈ gw := gk4 (List.mem_of_getElem? (i := 212) (by decide +kernel)) (by decide +kernel)
theorem q4_213 : Cond.code ⟨"JesterUnion", "undo", "()I"⟩ prog_1_method_34_code 1 (Option.some FieldType.int) ∈ gw := gk4 (List.mem_of_getElem? (i := 213) (by decide +kernel)) (by decide +kernel)
theorem q4_214 : Cond.methodLink "JesterUnion" 284 ⟨"JesterUnion$History", "giveLatestBack", "(LJesterUnion$Court;)V"⟩ ∈ gw := gk4 (List.mem_of_getElem? (i := 214) (by decide +kernel)) (by decide +kernel)
theorem q4_215 : Cond.instanceMethod ⟨"JesterUnion$History", "giveLatestBack", "(LJesterUnion$Court;)V"⟩ ∈ gw := gk4 (List.mem_of_getElem? (i := 215) (by decide +kernel)) (by decide +kernel)
theorem q4_216 : Cond.selects "JesterUnion$History" ⟨"JesterUnion$History", "giveLatestBack", "(LJesterUnion$Court;)V"⟩ ⟨"JesterUnion$History", "giveLatestBack", "(LJesterUnion$Court;)V"⟩ ∈ gw := gk4 (List.mem_of_getElem? (i := 216) (by decide +kernel)) (by decide +kernel)
theorem q4_217 : Cond.code ⟨"JesterUnion$History", "giveLatestBack", "(LJesterUnion$Court;)V"⟩ prog_5_method_3_code 2 (Option.none : Option FieldType) ∈ gw := gk4 (List.mem_of_getElem? (i := 217) (by decide +kernel)) (by decide +kernel)
theorem q4_218 : Cond.methodLink "JesterUnionLaw" 153 ⟨"JesterUnion", "save", "()I"⟩ ∈ gw := gk4 (List.mem_of_getElem? (i := 218) (by decide +kernel)) (by decide +kernel)
theorem q4_219 : Cond.instanceMethod ⟨"JesterUnion", "save", "()I"⟩ ∈ gw := gk4 (List.mem_of_getElem? (i := 219) (by decide +kernel)) (by decide +kernel)
theorem q4_220 : Cond.selects "JesterUnion" ⟨"JesterUnion", "save", "()I"⟩ ⟨"JesterUnion", "save", "()I"⟩ ∈ gw := gk4 (List.mem_of_getElem? (i := 220) (by decide +kernel)) (by decide +kernel)
theorem q4_221 : Cond.code ⟨"JesterUnion", "save", "()I"⟩ prog_1_method_35_code 1 (Option.some FieldType.int) ∈ gw := gk4 (List.mem_of_getElem? (i := 221) (by decide +kernel)) (by decide +kernel)
theorem q4_222 : Cond.methodLink "JesterUnionLaw" 157 ⟨"JesterUnion", "restore", "()I"⟩ ∈ gw := gk4 (List.mem_of_getElem? (i := 222) (by decide +kernel)) (by decide +kernel)
theorem q4_223 : Cond.instanceMethod ⟨"JesterUnion", "restore", "()I"⟩ ∈ gw := gk4 (List.mem_of_getElem? (i := 223) (by decide +kernel)) (by decide +kernel)
theorem q4_224 : Cond.selects "JesterUnion" ⟨"JesterUnion", "restore", "()I"⟩ ⟨"JesterUnion", "restore", "()I"⟩ ∈ gw := gk4 (List.mem_of_getElem? (i := 224) (by decide +kernel)) (by decide +kernel)
theorem q4_225 : Cond.code ⟨"JesterUnion", "restore", "()I"⟩ prog_1_method_36_code 1 (Option.some FieldType.int) ∈ gw := gk4 (List.mem_of_getElem? (i := 225) (by decide +kernel)) (by decide +kernel)
theorem q4_226 : Cond.methodLink "JesterUnion" 287 ⟨"JesterUnion$History", "forgetAll", "()V"⟩ ∈ gw := gk4 (List.mem_of_getElem? (i := 226) (by decide +kernel)) (by decide +kernel)
theorem q4_227 : Cond.instanceMethod ⟨"JesterUnion$History", "forgetAll", "()V"⟩ ∈ gw := gk4 (List.mem_of_getElem? (i := 227) (by decide +kernel)) (by decide +kernel)
theorem q4_228 : Cond.selects "JesterUnion$History" ⟨"JesterUnion$History", "forgetAll", "()V"⟩ ⟨"JesterUnion$History", "forgetAll", "()V"⟩ ∈ gw := gk4 (List.mem_of_getElem? (i := 228) (by decide +kernel)) (by decide +kernel)
theorem q4_229 : Cond.code ⟨"JesterUnion$History", "forgetAll", "()V"⟩ prog_5_method_4_code 1 (Option.none : Option FieldType) ∈ gw := gk4 (List.mem_of_getElem? (i := 229) (by decide +kernel)) (by decide +kernel)
theorem q4_230 : Cond.classLink "JesterUnionLaw" 10 "JesterUnionModel" ∈ gw := gk4 (List.mem_of_getElem? (i := 230) (by decide +kernel)) (by decide +kernel)
theorem q4_231 : Cond.instantiable "JesterUnionModel" 18 ∈ gw := gk4 (List.mem_of_getElem? (i := 231) (by decide +kernel)) (by decide +kernel)
theorem q4_232 : Cond.methodLink "JesterUnionLaw" 12 ⟨"JesterUnionModel", "<init>", "()V"⟩ ∈ gw := gk4 (List.mem_of_getElem? (i := 232) (by decide +kernel)) (by decide +kernel)
theorem q4_233 : Cond.instanceMethod ⟨"JesterUnionModel", "<init>", "()V"⟩ ∈ gw := gk4 (List.mem_of_getElem? (i := 233) (by decide +kernel)) (by decide +kernel)
theorem q4_234 : Cond.code ⟨"JesterUnionModel", "<init>", "()V"⟩ prog_9_method_1_code 1 (Option.none : Option FieldType) ∈ gw := gk4 (List.mem_of_getElem? (i := 234) (by decide +kernel)) (by decide +kernel)
theorem q4_235 : Cond.methodLink "JesterUnionModel" 1 ⟨"java/lang/Object", "<init>", "()V"⟩ ∈ gw := gk4 (List.mem_of_getElem? (i := 235) (by decide +kernel)) (by decide +kernel)
theorem q4_236 : Cond.fieldLink "JesterUnionModel" 31 "JesterUnionModel" "fails" "I" ∈ gw := gk4 (List.mem_of_getElem? (i := 236) (by decide +kernel)) (by decide +kernel)
theorem q4_237 : Cond.fieldLink "JesterUnionModel" 49 "JesterUnionModel" "changes" "I" ∈ gw := gk4 (List.mem_of_getElem? (i := 237) (by decide +kernel)) (by decide +kernel)
theorem q4_238 : Cond.fieldLink "JesterUnionModel" 35 "JesterUnionModel" "why" "I" ∈ gw := gk4 (List.mem_of_getElem? (i := 238) (by decide +kernel)) (by decide +kernel)
theorem q4_239 : Cond.fieldLink "JesterUnionModel" 38 "JesterUnionModel" "detail" "I" ∈ gw := gk4 (List.mem_of_getElem? (i := 239) (by decide +kernel)) (by decide +kernel)
theorem q5_0 : Cond.fieldLink "JesterUnionModel" 223 "JesterUnionModel" "isSaved" "Z" ∈ gw := gk5 (List.mem_of_getElem? (i := 0) (by decide +kernel)) (by decide +kernel)
theorem q5_1 : Cond.fieldLink "JesterUnionModel" 7 "JesterUnionModel" "v" "[I" ∈ gw := gk5 (List.mem_of_getElem? (i := 1) (by decide +kernel)) (by decide +kernel)
theorem q5_2 : Cond.fieldLink "JesterUnionModel" 13 "JesterUnionModel" "before" "[I" ∈ gw := gk5 (List.mem_of_getElem? (i := 2) (by decide +kernel)) (by decide +kernel)
theorem q5_3 : Cond.fieldLink "JesterUnionModel" 16 "JesterUnionModel" "saved" "[I" ∈ gw := gk5 (List.mem_of_getElem? (i := 3) (by decide +kernel)) (by decide +kernel)
theorem q5_4 : Cond.fieldLink "JesterUnionModel" 19 "JesterUnionModel" "kept" "[I" ∈ gw := gk5 (List.mem_of_getElem? (i := 4) (by decide +kernel)) (by decide +kernel)
theorem q5_5 : Cond.fieldLink "JesterUnionModel" 22 "JesterUnionModel" "past" "[I" ∈ gw := gk5 (List.mem_of_getElem? (i := 5) (by decide +kernel)) (by decide +kernel)
theorem q5_6 : Cond.fieldLink "JesterUnionModel" 25 "JesterUnionModel" "text" "[I" ∈ gw := gk5 (List.mem_of_getElem? (i := 6) (by decide +kernel)) (by decide +kernel)
theorem q5_7 : Cond.fieldLink "JesterUnionModel" 28 "JesterUnionModel" "line" "[I" ∈ gw := gk5 (List.mem_of_getElem? (i := 7) (by decide +kernel)) (by decide +kernel)
theorem q5_8 : Cond.fieldLink "JesterUnionModel" 176 "JesterUnionModel" "textN" "I" ∈ gw := gk5 (List.mem_of_getElem? (i := 8) (by decide +kernel)) (by decide +kernel)
theorem q5_9 : Cond.fieldLink "JesterUnionModel" 179 "JesterUnionModel" "here" "I" ∈ gw := gk5 (List.mem_of_getElem? (i := 9) (by decide +kernel)) (by decide +kernel)
theorem q5_10 : Cond.fieldLink "JesterUnionModel" 182 "JesterUnionModel" "end" "I" ∈ gw := gk5 (List.mem_of_getElem? (i := 10) (by decide +kernel)) (by decide +kernel)
theorem q5_11 : Cond.fieldLink "JesterUnionModel" 170 "JesterUnionModel" "lineN" "I" ∈ gw := gk5 (List.mem_of_getElem? (i := 11) (by decide +kernel)) (by decide +kernel)
theorem q5_12 : Cond.fieldLink "JesterUnionModel" 185 "JesterUnionModel" "isWrong" "Z" ∈ gw := gk5 (List.mem_of_getElem? (i := 12) (by decide +kernel)) (by decide +kernel)
theorem q5_13 : Cond.fieldLink "JesterUnionModel" 207 "JesterUnionModel" "isDoing" "Z" ∈ gw := gk5 (List.mem_of_getElem? (i := 13) (by decide +kernel)) (by decide +kernel)
theorem q5_14 : Cond.lays "JesterUnionModel" "JesterUnionModel" "fails" "I" ∈ gw := gk5 (List.mem_of_getElem? (i := 14) (by decide +kernel)) (by decide +kernel)
theorem q5_16 : Cond.lays "JesterUnionModel" "JesterUnionModel" "changes" "I" ∈ gw := gk5 (List.mem_of_getElem? (i := 16) (by decide +kernel)) (by decide +kernel)
theorem q5_18 : Cond.lays "JesterUnionModel" "JesterUnionModel" "why" "I" ∈ gw := gk5 (List.mem_of_getElem? (i := 18) (by decide +kernel)) (by decide +kernel)
theorem q5_20 : Cond.lays "JesterUnionModel" "JesterUnionModel" "detail" "I" ∈ gw := gk5 (List.mem_of_getElem? (i := 20) (by decide +kernel)) (by decide +kernel)
theorem q5_22 : Cond.lays "JesterUnionModel" "JesterUnionModel" "isSaved" "Z" ∈ gw := gk5 (List.mem_of_getElem? (i := 22) (by decide +kernel)) (by decide +kernel)
theorem q5_24 : Cond.laysFinal "JesterUnionModel" "JesterUnionModel" "v" "[I" ∈ gw := gk5 (List.mem_of_getElem? (i := 24) (by decide +kernel)) (by decide +kernel)
theorem q5_26 : Cond.laysFinal "JesterUnionModel" "JesterUnionModel" "before" "[I" ∈ gw := gk5 (List.mem_of_getElem? (i := 26) (by decide +kernel)) (by decide +kernel)
theorem q5_28 : Cond.laysFinal "JesterUnionModel" "JesterUnionModel" "saved" "[I" ∈ gw := gk5 (List.mem_of_getElem? (i := 28) (by decide +kernel)) (by decide +kernel)
theorem q5_30 : Cond.laysFinal "JesterUnionModel" "JesterUnionModel" "kept" "[I" ∈ gw := gk5 (List.mem_of_getElem? (i := 30) (by decide +kernel)) (by decide +kernel)
theorem q5_32 : Cond.laysFinal "JesterUnionModel" "JesterUnionModel" "past" "[I" ∈ gw := gk5 (List.mem_of_getElem? (i := 32) (by decide +kernel)) (by decide +kernel)
theorem q5_34 : Cond.laysFinal "JesterUnionModel" "JesterUnionModel" "text" "[I" ∈ gw := gk5 (List.mem_of_getElem? (i := 34) (by decide +kernel)) (by decide +kernel)
theorem q5_36 : Cond.laysFinal "JesterUnionModel" "JesterUnionModel" "line" "[I" ∈ gw := gk5 (List.mem_of_getElem? (i := 36) (by decide +kernel)) (by decide +kernel)
theorem q5_38 : Cond.lays "JesterUnionModel" "JesterUnionModel" "textN" "I" ∈ gw := gk5 (List.mem_of_getElem? (i := 38) (by decide +kernel)) (by decide +kernel)
theorem q5_40 : Cond.lays "JesterUnionModel" "JesterUnionModel" "here" "I" ∈ gw := gk5 (List.mem_of_getElem? (i := 40) (by decide +kernel)) (by decide +kernel)
theorem q5_42 : Cond.lays "JesterUnionModel" "JesterUnionModel" "end" "I" ∈ gw := gk5 (List.mem_of_getElem? (i := 42) (by decide +kernel)) (by decide +kernel)
theorem q5_44 : Cond.lays "JesterUnionModel" "JesterUnionModel" "lineN" "I" ∈ gw := gk5 (List.mem_of_getElem? (i := 44) (by decide +kernel)) (by decide +kernel)
theorem q5_46 : Cond.lays "JesterUnionModel" "JesterUnionModel" "isWrong" "Z" ∈ gw := gk5 (List.mem_of_getElem? (i := 46) (by decide +kernel)) (by decide +kernel)
theorem q5_48 : Cond.lays "JesterUnionModel" "JesterUnionModel" "isDoing" "Z" ∈ gw := gk5 (List.mem_of_getElem? (i := 48) (by decide +kernel)) (by decide +kernel)
theorem q5_50 : Cond.superclass "JesterUnionModel" "java/lang/Object" ∈ gw := gk5 (List.mem_of_getElem? (i := 50) (by decide +kernel)) (by decide +kernel)
theorem q5_51 : Cond.methodLink "JesterUnionLaw" 17 ⟨"JesterUnionModel", "fool", "(I)I"⟩ ∈ gw := gk5 (List.mem_of_getElem? (i := 51) (by decide +kernel)) (by decide +kernel)
theorem q5_52 : Cond.instanceMethod ⟨"JesterUnionModel", "fool", "(I)I"⟩ ∈ gw := gk5 (List.mem_of_getElem? (i := 52) (by decide +kernel)) (by decide +kernel)
theorem q5_53 : Cond.selects "JesterUnionModel" ⟨"JesterUnionModel", "fool", "(I)I"⟩ ⟨"JesterUnionModel", "fool", "(I)I"⟩ ∈ gw := gk5 (List.mem_of_getElem? (i := 53) (by decide +kernel)) (by decide +kernel)
theorem q5_54 : Cond.code ⟨"JesterUnionModel", "fool", "(I)I"⟩ prog_9_method_20_code 2 (Option.some FieldType.int) ∈ gw := gk5 (List.mem_of_getElem? (i := 54) (by decide +kernel)) (by decide +kernel)
theorem q5_55 : Cond.methodLink "JesterUnionModel" 69 ⟨"JesterUnionModel", "begins", "()V"⟩ ∈ gw := gk5 (List.mem_of_getElem? (i := 55) (by decide +kernel)) (by decide +kernel)
theorem q5_57 : Cond.instanceMethod ⟨"JesterUnionModel", "begins", "()V"⟩ ∈ gw := gk5 (List.mem_of_getElem? (i := 57) (by decide +kernel)) (by decide +kernel)
theorem q5_58 : Cond.code ⟨"JesterUnionModel", "begins", "()V"⟩ prog_9_method_6_code 1 (Option.none : Option FieldType) ∈ gw := gk5 (List.mem_of_getElem? (i := 58) (by decide +kernel)) (by decide +kernel)
theorem q5_59 : Cond.methodLink "JesterUnionModel" 45 ⟨"JesterUnionModel", "lays", "([I[I)V"⟩ ∈ gw := gk5 (List.mem_of_getElem? (i := 59) (by decide +kernel)) (by decide +kernel)
theorem q5_60 : Cond.static ⟨"JesterUnionModel", "lays", "([I[I)V"⟩ ∈ gw := gk5 (List.mem_of_getElem? (i := 60) (by decide +kernel)) (by decide +kernel)
theorem q5_61 : Cond.code ⟨"JesterUnionModel", "lays", "([I[I)V"⟩ prog_9_method_5_code 3 (Option.none : Option FieldType) ∈ gw := gk5 (List.mem_of_getElem? (i := 61) (by decide +kernel)) (by decide +kernel)
theorem q5_62 : Cond.methodLink "JesterUnionModel" 72 ⟨"JesterUnionModel", "comes", "(I)I"⟩ ∈ gw := gk5 (List.mem_of_getElem? (i := 62) (by decide +kernel)) (by decide +kernel)
theorem q5_64 : Cond.instanceMethod ⟨"JesterUnionModel", "comes", "(I)I"⟩ ∈ gw := gk5 (List.mem_of_getElem? (i := 64) (by decide +kernel)) (by decide +kernel)
theorem q5_65 : Cond.code ⟨"JesterUnionModel", "comes", "(I)I"⟩ prog_9_method_19_code 3 (Option.some FieldType.int) ∈ gw := gk5 (List.mem_of_getElem? (i := 65) (by decide +kernel)) (by decide +kernel)
theorem q5_66 : Cond.methodLink "JesterUnionModel" 52 ⟨"JesterUnionModel", "isIn", "(III)Z"⟩ ∈ gw := gk5 (List.mem_of_getElem? (i := 66) (by decide +kernel)) (by decide +kernel)
theorem q5_67 : Cond.static ⟨"JesterUnionModel", "isIn", "(III)Z"⟩ ∈ gw := gk5 (List.mem_of_getElem? (i := 67) (by decide +kernel)) (by decide +kernel)
theorem q5_68 : Cond.code ⟨"JesterUnionModel", "isIn", "(III)Z"⟩ prog_9_method_4_code 3 (Option.some FieldType.boolean) ∈ gw := gk5 (List.mem_of_getElem? (i := 68) (by decide +kernel)) (by decide +kernel)
theorem q5_69 : Cond.methodLink "JesterUnionModel" 41 ⟨"JesterUnionModel", "fail", "(I)I"⟩ ∈ gw := gk5 (List.mem_of_getElem? (i := 69) (by decide +kernel)) (by decide +kernel)
theorem q5_71 : Cond.instanceMethod ⟨"JesterUnionModel", "fail", "(I)I"⟩ ∈ gw := gk5 (List.mem_of_getElem? (i := 71) (by decide +kernel)) (by decide +kernel)
theorem q5_72 : Cond.code ⟨"JesterUnionModel", "fail", "(I)I"⟩ prog_9_method_2_code 2 (Option.some FieldType.int) ∈ gw := gk5 (List.mem_of_getElem? (i := 72) (by decide +kernel)) (by decide +kernel)
theorem q5_73 : Cond.methodLink "JesterUnionModel" 66 ⟨"JesterUnionModel", "refuses", "(II)I"⟩ ∈ gw := gk5 (List.mem_of_getElem? (i := 73) (by decide +kernel)) (by decide +kernel)
theorem q5_75 : Cond.instanceMethod ⟨"JesterUnionModel", "refuses", "(II)I"⟩ ∈ gw := gk5 (List.mem_of_getElem? (i := 75) (by decide +kernel)) (by decide +kernel)
theorem q5_76 : Cond.code ⟨"JesterUnionModel", "refuses", "(II)I"⟩ prog_9_method_3_code 3 (Option.some FieldType.int) ∈ gw := gk5 (List.mem_of_getElem? (i := 76) (by decide +kernel)) (by decide +kernel)
theorem q5_77 : Cond.methodLink "JesterUnionModel" 63 ⟨"JesterUnionModel", "at", "(II)I"⟩ ∈ gw := gk5 (List.mem_of_getElem? (i := 77) (by decide +kernel)) (by decide +kernel)
theorem q5_78 : Cond.static ⟨"JesterUnionModel", "at", "(II)I"⟩ ∈ gw := gk5 (List.mem_of_getElem? (i := 78) (by decide +kernel)) (by decide +kernel)
theorem q5_79 : Cond.code ⟨"JesterUnionModel", "at", "(II)I"⟩ prog_9_method_8_code 2 (Option.some FieldType.int) ∈ gw := gk5 (List.mem_of_getElem? (i := 79) (by decide +kernel)) (by decide +kernel)
theorem q5_80 : Cond.methodLink "JesterUnionModel" 75 ⟨"JesterUnionModel", "closes", "(I)I"⟩ ∈ gw := gk5 (List.mem_of_getElem? (i := 80) (by decide +kernel)) (by decide +kernel)
theorem q5_82 : Cond.instanceMethod ⟨"JesterUnionModel", "closes", "(I)I"⟩ ∈ gw := gk5 (List.mem_of_getElem? (i := 82) (by decide +kernel)) (by decide +kernel)
theorem q5_83 : Cond.code ⟨"JesterUnionModel", "closes", "(I)I"⟩ prog_9_method_7_code 3 (Option.some FieldType.int) ∈ gw := gk5 (List.mem_of_getElem? (i := 83) (by decide +kernel)) (by decide +kernel)
theorem q5_84 : Cond.methodLink "JesterUnionLaw" 21 ⟨"JesterUnionModel", "joke", "(I)I"⟩ ∈ gw := gk5 (List.mem_of_getElem? (i := 84) (by decide +kernel)) (by decide +kernel)
theorem q5_85 : Cond.instanceMethod ⟨"JesterUnionModel", "joke", "(I)I"⟩ ∈ gw := gk5 (List.mem_of_getElem? (i := 85) (by decide +kernel)) (by decide +kernel)
theorem q5_86 : Cond.selects "JesterUnionModel" ⟨"JesterUnionModel", "joke", "(I)I"⟩ ⟨"JesterUnionModel", "joke", "(I)I"⟩ ∈ gw := gk5 (List.mem_of_getElem? (i := 86) (by decide +kernel)) (by decide +kernel)
theorem q5_87 : Cond.code ⟨"JesterUnionModel", "joke", "(I)I"⟩ prog_9_method_22_code 2 (Option.some FieldType.int) ∈ gw := gk5 (List.mem_of_getElem? (i := 87) (by decide +kernel)) (by decide +kernel)
theorem q5_88 : Cond.methodLink "JesterUnionModel" 78 ⟨"JesterUnionModel", "jokes", "(I)I"⟩ ∈ gw := gk5 (List.mem_of_getElem? (i := 88) (by decide +kernel)) (by decide +kernel)
theorem q5_90 : Cond.instanceMethod ⟨"JesterUnionModel", "jokes", "(I)I"⟩ ∈ gw := gk5 (List.mem_of_getElem? (i := 90) (by decide +kernel)) (by decide +kernel)
theorem q5_91 : Cond.code ⟨"JesterUnionModel", "jokes", "(I)I"⟩ prog_9_method_21_code 3 (Option.some FieldType.int) ∈ gw := gk5 (List.mem_of_getElem? (i := 91) (by decide +kernel)) (by decide +kernel)
theorem q5_92 : Cond.methodLink "JesterUnionModel" 56 ⟨"JesterUnionModel", "in", "(II)I"⟩ ∈ gw := gk5 (List.mem_of_getElem? (i := 92) (by decide +kernel)) (by decide +kernel)
theorem q5_93 : Cond.static ⟨"JesterUnionModel", "in", "(II)I"⟩ ∈ gw := gk5 (List.mem_of_getElem? (i := 93) (by decide +kernel)) (by decide +kernel)
theorem q5_94 : Cond.code ⟨"JesterUnionModel", "in", "(II)I"⟩ prog_9_method_9_code 2 (Option.some FieldType.int) ∈ gw := gk5 (List.mem_of_getElem? (i := 94) (by decide +kernel)) (by decide +kernel)
theorem q5_95 : Cond.methodLink "JesterUnionLaw" 26 ⟨"JesterUnionModel", "patent", "(III)I"⟩ ∈ gw := gk5 (List.mem_of_getElem? (i := 95) (by decide +kernel)) (by decide +kernel)
theorem q5_96 : Cond.instanceMethod ⟨"JesterUnionModel", "patent", "(III)I"⟩ ∈ gw := gk5 (List.mem_of_getElem? (i := 96) (by decide +kernel)) (by decide +kernel)
theorem q5_97 : Cond.selects "JesterUnionModel" ⟨"JesterUnionModel", "patent", "(III)I"⟩ ⟨"JesterUnionModel", "patent", "(III)I"⟩ ∈ gw := gk5 (List.mem_of_getElem? (i := 97) (by decide +kernel)) (by decide +kernel)
theorem q5_98 : Cond.code ⟨"JesterUnionModel", "patent", "(III)I"⟩ prog_9_method_24_code 4 (Option.some FieldType.int) ∈ gw := gk5 (List.mem_of_getElem? (i := 98) (by decide +kernel)) (by decide +kernel)
theorem q5_99 : Cond.methodLink "JesterUnionModel" 91 ⟨"JesterUnionModel", "patents", "(III)I"⟩ ∈ gw := gk5 (List.mem_of_getElem? (i := 99) (by decide +kernel)) (by decide +kernel)
theorem q5_101 : Cond.instanceMethod ⟨"JesterUnionModel", "patents", "(III)I"⟩ ∈ gw := gk5 (List.mem_of_getElem? (i := 101) (by decide +kernel)) (by decide +kernel)
theorem q5_102 : Cond.code ⟨"JesterUnionModel", "patents", "(III)I"⟩ prog_9_method_23_code 5 (Option.some FieldType.int) ∈ gw := gk5 (List.mem_of_getElem? (i := 102) (by decide +kernel)) (by decide +kernel)
theorem q5_103 : Cond.methodLink "JesterUnionModel" 81 ⟨"JesterUnionModel", "isFool", "(I)Z"⟩ ∈ gw := gk5 (List.mem_of_getElem? (i := 103) (by decide +kernel)) (by decide +kernel)
theorem q5_105 : Cond.instanceMethod ⟨"JesterUnionModel", "isFool", "(I)Z"⟩ ∈ gw := gk5 (List.mem_of_getElem? (i := 105) (by decide +kernel)) (by decide +kernel)
theorem q5_106 : Cond.code ⟨"JesterUnionModel", "isFool", "(I)Z"⟩ prog_9_method_12_code 2 (Option.some FieldType.boolean) ∈ gw := gk5 (List.mem_of_getElem? (i := 106) (by decide +kernel)) (by decide +kernel)
theorem q5_107 : Cond.methodLink "JesterUnionModel" 85 ⟨"JesterUnionModel", "isJoke", "(I)Z"⟩ ∈ gw := gk5 (List.mem_of_getElem? (i := 107) (by decide +kernel)) (by decide +kernel)
theorem q5_109 : Cond.instanceMethod ⟨"JesterUnionModel", "isJoke", "(I)Z"⟩ ∈ gw := gk5 (List.mem_of_getElem? (i := 109) (by decide +kernel)) (by decide +kernel)
theorem q5_110 : Cond.code ⟨"JesterUnionModel", "isJoke", "(I)Z"⟩ prog_9_method_13_code 2 (Option.some FieldType.boolean) ∈ gw := gk5 (List.mem_of_getElem? (i := 110) (by decide +kernel)) (by decide +kernel)
theorem q5_111 : Cond.methodLink "JesterUnionModel" 60 ⟨"JesterUnionModel", "owner", "(I)I"⟩ ∈ gw := gk5 (List.mem_of_getElem? (i := 111) (by decide +kernel)) (by decide +kernel)
theorem q5_113 : Cond.instanceMethod ⟨"JesterUnionModel", "owner", "(I)I"⟩ ∈ gw := gk5 (List.mem_of_getElem? (i := 113) (by decide +kernel)) (by decide +kernel)
theorem q5_114 : Cond.code ⟨"JesterUnionModel", "owner", "(I)I"⟩ prog_9_method_15_code 2 (Option.some FieldType.int) ∈ gw := gk5 (List.mem_of_getElem? (i := 114) (by decide +kernel)) (by decide +kernel)
theorem q5_115 : Cond.methodLink "JesterUnionModel" 88 ⟨"JesterUnionModel", "pays", "(II)I"⟩ ∈ gw := gk5 (List.mem_of_getElem? (i := 115) (by decide +kernel)) (by decide +kernel)
theorem q5_117 : Cond.instanceMethod ⟨"JesterUnionModel", "pays", "(II)I"⟩ ∈ gw := gk5 (List.mem_of_getElem? (i := 117) (by decide +kernel)) (by decide +kernel)
theorem q5_118 : Cond.code ⟨"JesterUnionModel", "pays", "(II)I"⟩ prog_9_method_18_code 4 (Option.some FieldType.int) ∈ gw := gk5 (List.mem_of_getElem? (i := 118) (by decide +kernel)) (by decide +kernel)
theorem q5_119 : Cond.methodLink "JesterUnionLaw" 30 ⟨"JesterUnionModel", "insure", "(I)I"⟩ ∈ gw := gk5 (List.mem_of_getElem? (i := 119) (by decide +kernel)) (by decide +kernel)
theorem q5_120 : Cond.instanceMethod ⟨"JesterUnionModel", "insure", "(I)I"⟩ ∈ gw := gk5 (List.mem_of_getElem? (i := 120) (by decide +kernel)) (by decide +kernel)
theorem q5_121 : Cond.selects "JesterUnionModel" ⟨"JesterUnionModel", "insure", "(I)I"⟩ ⟨"JesterUnionModel", "insure", "(I)I"⟩ ∈ gw := gk5 (List.mem_of_getElem? (i := 121) (by decide +kernel)) (by decide +kernel)
theorem q5_122 : Cond.code ⟨"JesterUnionModel", "insure", "(I)I"⟩ prog_9_method_26_code 2 (Option.some FieldType.int) ∈ gw := gk5 (List.mem_of_getElem? (i := 122) (by decide +kernel)) (by decide +kernel)
theorem q5_123 : Cond.methodLink "JesterUnionModel" 95 ⟨"JesterUnionModel", "insures", "(I)I"⟩ ∈ gw := gk5 (List.mem_of_getElem? (i := 123) (by decide +kernel)) (by decide +kernel)
theorem q5_125 : Cond.instanceMethod ⟨"JesterUnionModel", "insures", "(I)I"⟩ ∈ gw := gk5 (List.mem_of_getElem? (i := 125) (by decide +kernel)) (by decide +kernel)
theorem q5_126 : Cond.code ⟨"JesterUnionModel", "insures", "(I)I"⟩ prog_9_method_25_code 2 (Option.some FieldType.int) ∈ gw := gk5 (List.mem_of_getElem? (i := 126) (by decide +kernel)) (by decide +kernel)
theorem q5_127 : Cond.methodLink "JesterUnionLaw" 34 ⟨"JesterUnionModel", "audit", "(I)I"⟩ ∈ gw := gk5 (List.mem_of_getElem? (i := 127) (by decide +kernel)) (by decide +kernel)
theorem q5_128 : Cond.instanceMethod ⟨"JesterUnionModel", "audit", "(I)I"⟩ ∈ gw := gk5 (List.mem_of_getElem? (i := 128) (by decide +kernel)) (by decide +kernel)
theorem q5_129 : Cond.selects "JesterUnionModel" ⟨"JesterUnionModel", "audit", "(I)I"⟩ ⟨"JesterUnionModel", "audit", "(I)I"⟩ ∈ gw := gk5 (List.mem_of_getElem? (i := 129) (by decide +kernel)) (by decide +kernel)
theorem q5_130 : Cond.code ⟨"JesterUnionModel", "audit", "(I)I"⟩ prog_9_method_28_code 2 (Option.some FieldType.int) ∈ gw := gk5 (List.mem_of_getElem? (i := 130) (by decide +kernel)) (by decide +kernel)
theorem q5_131 : Cond.methodLink "JesterUnionModel" 98 ⟨"JesterUnionModel", "audits", "(I)I"⟩ ∈ gw := gk5 (List.mem_of_getElem? (i := 131) (by decide +kernel)) (by decide +kernel)
theorem q5_133 : Cond.instanceMethod ⟨"JesterUnionModel", "audits", "(I)I"⟩ ∈ gw := gk5 (List.mem_of_getElem? (i := 133) (by decide +kernel)) (by decide +kernel)
theorem q5_134 : Cond.code ⟨"JesterUnionModel", "audits", "(I)I"⟩ prog_9_method_27_code 4 (Option.some FieldType.int) ∈ gw := gk5 (List.mem_of_getElem? (i := 134) (by decide +kernel)) (by decide +kernel)
theorem q5_135 : Cond.methodLink "JesterUnionLaw" 39 ⟨"JesterUnionModel", "foolOf", "(II)I"⟩ ∈ gw := gk5 (List.mem_of_getElem? (i := 135) (by decide +kernel)) (by decide +kernel)
theorem q5_136 : Cond.instanceMethod ⟨"JesterUnionModel", "foolOf", "(II)I"⟩ ∈ gw := gk5 (List.mem_of_getElem? (i := 136) (by decide +kernel)) (by decide +kernel)
theorem q5_137 : Cond.selects "JesterUnionModel" ⟨"JesterUnionModel", "foolOf", "(II)I"⟩ ⟨"JesterUnionModel", "foolOf", "(II)I"⟩ ∈ gw := gk5 (List.mem_of_getElem? (i := 137) (by decide +kernel)) (by decide +kernel)
theorem q5_138 : Cond.code ⟨"JesterUnionModel", "foolOf", "(II)I"⟩ prog_9_method_31_code 3 (Option.some FieldType.int) ∈ gw := gk5 (List.mem_of_getElem? (i := 138) (by decide +kernel)) (by decide +kernel)
theorem q5_139 : Cond.methodLink "JesterUnionModel" 104 ⟨"JesterUnionModel", "patentsOf", "(I)I"⟩ ∈ gw := gk5 (List.mem_of_getElem? (i := 139) (by decide +kernel)) (by decide +kernel)
theorem q5_141 : Cond.instanceMethod ⟨"JesterUnionModel", "patentsOf", "(I)I"⟩ ∈ gw := gk5 (List.mem_of_getElem? (i := 141) (by decide +kernel)) (by decide +kernel)
theorem q5_142 : Cond.code ⟨"JesterUnionModel", "patentsOf", "(I)I"⟩ prog_9_method_30_code 4 (Option.some FieldType.int) ∈ gw := gk5 (List.mem_of_getElem? (i := 142) (by decide +kernel)) (by decide +kernel)
theorem q5_143 : Cond.methodLink "JesterUnionModel" 107 ⟨"JesterUnionModel", "bookings", "(II)I"⟩ ∈ gw := gk5 (List.mem_of_getElem? (i := 143) (by decide +kernel)) (by decide +kernel)
theorem q5_145 : Cond.instanceMethod ⟨"JesterUnionModel", "bookings", "(II)I"⟩ ∈ gw := gk5 (List.mem_of_getElem? (i := 145) (by decide +kernel)) (by decide +kernel)
theorem q5_146 : Cond.code ⟨"JesterUnionModel", "bookings", "(II)I"⟩ prog_9_method_29_code 5 (Option.some FieldType.int) ∈ gw := gk5 (List.mem_of_getElem? (i := 146) (by decide +kernel)) (by decide +kernel)
theorem q5_147 : Cond.methodLink "JesterUnionModel" 101 ⟨"JesterUnionModel", "booked", "(II)I"⟩ ∈ gw := gk5 (List.mem_of_getElem? (i := 147) (by decide +kernel)) (by decide +kernel)
theorem q5_149 : Cond.instanceMethod ⟨"JesterUnionModel", "booked", "(II)I"⟩ ∈ gw := gk5 (List.mem_of_getElem? (i := 149) (by decide +kernel)) (by decide +kernel)
theorem q5_150 : Cond.code ⟨"JesterUnionModel", "booked", "(II)I"⟩ prog_9_method_11_code 3 (Option.some FieldType.int) ∈ gw := gk5 (List.mem_of_getElem? (i := 150) (by decide +kernel)) (by decide +kernel)
theorem q5_151 : Cond.methodLink "JesterUnionLaw" 43 ⟨"JesterUnionModel", "jokeOf", "(II)I"⟩ ∈ gw := gk5 (List.mem_of_getElem? (i := 151) (by decide +kernel)) (by decide +kernel)
theorem q5_152 : Cond.instanceMethod ⟨"JesterUnionModel", "jokeOf", "(II)I"⟩ ∈ gw := gk5 (List.mem_of_getElem? (i := 152) (by decide +kernel)) (by decide +kernel)
theorem q5_153 : Cond.selects "JesterUnionModel" ⟨"JesterUnionModel", "jokeOf", "(II)I"⟩ ⟨"JesterUnionModel", "jokeOf", "(II)I"⟩ ∈ gw := gk5 (List.mem_of_getElem? (i := 153) (by decide +kernel)) (by decide +kernel)
theorem q5_154 : Cond.code ⟨"JesterUnionModel", "jokeOf", "(II)I"⟩ prog_9_method_33_code 4 (Option.some FieldType.int) ∈ gw := gk5 (List.mem_of_getElem? (i := 154) (by decide +kernel)) (by decide +kernel)
theorem q5_155 : Cond.methodLink "JesterUnionModel" 110 ⟨"JesterUnionModel", "tellings", "(I)I"⟩ ∈ gw := gk5 (List.mem_of_getElem? (i := 155) (by decide +kernel)) (by decide +kernel)
theorem q5_157 : Cond.instanceMethod ⟨"JesterUnionModel", "tellings", "(I)I"⟩ ∈ gw := gk5 (List.mem_of_getElem? (i := 157) (by decide +kernel)) (by decide +kernel)
theorem q5_158 : Cond.code ⟨"JesterUnionModel", "tellings", "(I)I"⟩ prog_9_method_32_code 4 (Option.some FieldType.int) ∈ gw := gk5 (List.mem_of_getElem? (i := 158) (by decide +kernel)) (by decide +kernel)
theorem q5_159 : Cond.methodLink "JesterUnionLaw" 47 ⟨"JesterUnionModel", "exempt", "(II)I"⟩ ∈ gw := gk5 (List.mem_of_getElem? (i := 159) (by decide +kernel)) (by decide +kernel)
theorem q5_160 : Cond.instanceMethod ⟨"JesterUnionModel", "exempt", "(II)I"⟩ ∈ gw := gk5 (List.mem_of_getElem? (i := 160) (by decide +kernel)) (by decide +kernel)
theorem q5_161 : Cond.selects "JesterUnionModel" ⟨"JesterUnionModel", "exempt", "(II)I"⟩ ⟨"JesterUnionModel", "exempt", "(II)I"⟩ ∈ gw := gk5 (List.mem_of_getElem? (i := 161) (by decide +kernel)) (by decide +kernel)
theorem q5_162 : Cond.code ⟨"JesterUnionModel", "exempt", "(II)I"⟩ prog_9_method_35_code 3 (Option.some FieldType.int) ∈ gw := gk5 (List.mem_of_getElem? (i := 162) (by decide +kernel)) (by decide +kernel)
theorem q5_163 : Cond.methodLink "JesterUnionModel" 119 ⟨"JesterUnionModel", "exempts", "(II)I"⟩ ∈ gw := gk5 (List.mem_of_getElem? (i := 163) (by decide +kernel)) (by decide +kernel)
theorem q5_165 : Cond.instanceMethod ⟨"JesterUnionModel", "exempts", "(II)I"⟩ ∈ gw := gk5 (List.mem_of_getElem? (i := 165) (by decide +kernel)) (by decide +kernel)
theorem q5_166 : Cond.code ⟨"JesterUnionModel", "exempts", "(II)I"⟩ prog_9_method_34_code 5 (Option.some FieldType.int) ∈ gw := gk5 (List.mem_of_getElem? (i := 166) (by decide +kernel)) (by decide +kernel)
theorem q5_167 : Cond.methodLink "JesterUnionModel" 113 ⟨"JesterUnionModel", "isThrone", "(I)Z"⟩ ∈ gw := gk5 (List.mem_of_getElem? (i := 167) (by decide +kernel)) (by decide +kernel)
theorem q5_168 : Cond.static ⟨"JesterUnionModel", "isThrone", "(I)Z"⟩ ∈ gw := gk5 (List.mem_of_getElem? (i := 168) (by decide +kernel)) (by decide +kernel)
theorem q5_169 : Cond.code ⟨"JesterUnionModel", "isThrone", "(I)Z"⟩ prog_9_method_14_code 1 (Option.some FieldType.boolean) ∈ gw := gk5 (List.mem_of_getElem? (i := 169) (by decide +kernel)) (by decide +kernel)
theorem q5_170 : Cond.methodLink "JesterUnionModel" 116 ⟨"JesterUnionModel", "of", "(II)I"⟩ ∈ gw := gk5 (List.mem_of_getElem? (i := 170) (by decide +kernel)) (by decide +kernel)
theorem q5_171 : Cond.static ⟨"JesterUnionModel", "of", "(II)I"⟩ ∈ gw := gk5 (List.mem_of_getElem? (i := 171) (by decide +kernel)) (by decide +kernel)
theorem q5_172 : Cond.code ⟨"JesterUnionModel", "of", "(II)I"⟩ prog_9_method_10_code 2 (Option.some FieldType.int) ∈ gw := gk5 (List.mem_of_getElem? (i := 172) (by decide +kernel)) (by decide +kernel)
theorem q5_173 : Cond.methodLink "JesterUnionLaw" 51 ⟨"JesterUnionModel", "throneOf", "(II)I"⟩ ∈ gw := gk5 (List.mem_of_getElem? (i := 173) (by decide +kernel)) (by decide +kernel)
theorem q5_174 : Cond.instanceMethod ⟨"JesterUnionModel", "throneOf", "(II)I"⟩ ∈ gw := gk5 (List.mem_of_getElem? (i := 174) (by decide +kernel)) (by decide +kernel)
theorem q5_175 : Cond.selects "JesterUnionModel" ⟨"JesterUnionModel", "throneOf", "(II)I"⟩ ⟨"JesterUnionModel", "throneOf", "(II)I"⟩ ∈ gw := gk5 (List.mem_of_getElem? (i := 175) (by decide +kernel)) (by decide +kernel)
theorem q5_176 : Cond.code ⟨"JesterUnionModel", "throneOf", "(II)I"⟩ prog_9_method_36_code 3 (Option.some FieldType.int) ∈ gw := gk5 (List.mem_of_getElem? (i := 176) (by decide +kernel)) (by decide +kernel)
theorem q5_177 : Cond.methodLink "JesterUnionLaw" 55 ⟨"JesterUnionModel", "told", "(II)I"⟩ ∈ gw := gk5 (List.mem_of_getElem? (i := 177) (by decide +kernel)) (by decide +kernel)
theorem q5_178 : Cond.instanceMethod ⟨"JesterUnionModel", "told", "(II)I"⟩ ∈ gw := gk5 (List.mem_of_getElem? (i := 178) (by decide +kernel)) (by decide +kernel)
theorem q5_179 : Cond.selects "JesterUnionModel" ⟨"JesterUnionModel", "told", "(II)I"⟩ ⟨"JesterUnionModel", "told", "(II)I"⟩ ∈ gw := gk5 (List.mem_of_getElem? (i := 179) (by decide +kernel)) (by decide +kernel)
theorem q5_180 : Cond.code ⟨"JesterUnionModel", "told", "(II)I"⟩ prog_9_method_37_code 3 (Option.some FieldType.int) ∈ gw := gk5 (List.mem_of_getElem? (i := 180) (by decide +kernel)) (by decide +kernel)
theorem q5_181 : Cond.methodLink "JesterUnionLaw" 60 ⟨"JesterUnionModel", "book", "(IIII)I"⟩ ∈ gw := gk5 (List.mem_of_getElem? (i := 181) (by decide +kernel)) (by decide +kernel)
theorem q5_182 : Cond.instanceMethod ⟨"JesterUnionModel", "book", "(IIII)I"⟩ ∈ gw := gk5 (List.mem_of_getElem? (i := 182) (by decide +kernel)) (by decide +kernel)
theorem q5_183 : Cond.selects "JesterUnionModel" ⟨"JesterUnionModel", "book", "(IIII)I"⟩ ⟨"JesterUnionModel", "book", "(IIII)I"⟩ ∈ gw := gk5 (List.mem_of_getElem? (i := 183) (by decide +kernel)) (by decide +kernel)
theorem q5_184 : Cond.code ⟨"JesterUnionModel", "book", "(IIII)I"⟩ prog_9_method_41_code 5 (Option.some FieldType.int) ∈ gw := gk5 (List.mem_of_getElem? (i := 184) (by decide +kernel)) (by decide +kernel)
theorem q5_185 : Cond.methodLink "JesterUnionModel" 133 ⟨"JesterUnionModel", "books", "(IIII)I"⟩ ∈ gw := gk5 (List.mem_of_getElem? (i := 185) (by decide +kernel)) (by decide +kernel)
theorem q5_187 : Cond.instanceMethod ⟨"JesterUnionModel", "books", "(IIII)I"⟩ ∈ gw := gk5 (List.mem_of_getElem? (i := 187) (by decide +kernel)) (by decide +kernel)
theorem q5_188 : Cond.code ⟨"JesterUnionModel", "books", "(IIII)I"⟩ prog_9_method_40_code 8 (Option.some FieldType.int) ∈ gw := gk5 (List.mem_of_getElem? (i := 188) (by decide +kernel)) (by decide +kernel)
theorem q5_189 : Cond.methodLink "JesterUnionModel" 122 ⟨"JesterUnionModel", "jokeFor", "(II)I"⟩ ∈ gw := gk5 (List.mem_of_getElem? (i := 189) (by decide +kernel)) (by decide +kernel)
theorem q5_191 : Cond.instanceMethod ⟨"JesterUnionModel", "jokeFor", "(II)I"⟩ ∈ gw := gk5 (List.mem_of_getElem? (i := 191) (by decide +kernel)) (by decide +kernel)
theorem q5_192 : Cond.code ⟨"JesterUnionModel", "jokeFor", "(II)I"⟩ prog_9_method_39_code 4 (Option.some FieldType.int) ∈ gw := gk5 (List.mem_of_getElem? (i := 192) (by decide +kernel)) (by decide +kernel)
theorem q5_193 : Cond.methodLink "JesterUnionModel" 125 ⟨"JesterUnionModel", "isBarred", "(II)Z"⟩ ∈ gw := gk5 (List.mem_of_getElem? (i := 193) (by decide +kernel)) (by decide +kernel)
theorem q5_195 : Cond.instanceMethod ⟨"JesterUnionModel", "isBarred", "(II)Z"⟩ ∈ gw := gk5 (List.mem_of_getElem? (i := 195) (by decide +kernel)) (by decide +kernel)
theorem q5_196 : Cond.code ⟨"JesterUnionModel", "isBarred", "(II)Z"⟩ prog_9_method_16_code 4 (Option.some FieldType.boolean) ∈ gw := gk5 (List.mem_of_getElem? (i := 196) (by decide +kernel)) (by decide +kernel)
theorem q5_197 : Cond.methodLink "JesterUnionModel" 129 ⟨"JesterUnionModel", "isAhead", "(IIII)Z"⟩ ∈ gw := gk5 (List.mem_of_getElem? (i := 197) (by decide +kernel)) (by decide +kernel)
theorem q5_199 : Cond.instanceMethod ⟨"JesterUnionModel", "isAhead", "(IIII)Z"⟩ ∈ gw := gk5 (List.mem_of_getElem? (i := 199) (by decide +kernel)) (by decide +kernel)
theorem q5_200 : Cond.code ⟨"JesterUnionModel", "isAhead", "(IIII)Z"⟩ prog_9_method_38_code 6 (Option.some FieldType.boolean) ∈ gw := gk5 (List.mem_of_getElem? (i := 200) (by decide +kernel)) (by decide +kernel)
theorem q5_201 : Cond.methodLink "JesterUnionLaw" 65 ⟨"JesterUnionModel", "next", "()I"⟩ ∈ gw := gk5 (List.mem_of_getElem? (i := 201) (by decide +kernel)) (by decide +kernel)
theorem q5_202 : Cond.instanceMethod ⟨"JesterUnionModel", "next", "()I"⟩ ∈ gw := gk5 (List.mem_of_getElem? (i := 202) (by decide +kernel)) (by decide +kernel)
theorem q5_203 : Cond.selects "JesterUnionModel" ⟨"JesterUnionModel", "next", "()I"⟩ ⟨"JesterUnionModel", "next", "()I"⟩ ∈ gw := gk5 (List.mem_of_getElem? (i := 203) (by decide +kernel)) (by decide +kernel)
theorem q5_204 : Cond.code ⟨"JesterUnionModel", "next", "()I"⟩ prog_9_method_46_code 1 (Option.some FieldType.int) ∈ gw := gk5 (List.mem_of_getElem? (i := 204) (by decide +kernel)) (by decide +kernel)
theorem q5_205 : Cond.methodLink "JesterUnionModel" 151 ⟨"JesterUnionModel", "carries", "()I"⟩ ∈ gw := gk5 (List.mem_of_getElem? (i := 205) (by decide +kernel)) (by decide +kernel)
theorem q5_207 : Cond.instanceMethod ⟨"JesterUnionModel", "carries", "()I"⟩ ∈ gw := gk5 (List.mem_of_getElem? (i := 207) (by decide +kernel)) (by decide +kernel)
theorem q5_208 : Cond.code ⟨"JesterUnionModel", "carries", "()I"⟩ prog_9_method_45_code 5 (Option.some FieldType.int) ∈ gw := gk5 (List.mem_of_getElem? (i := 208) (by decide +kernel)) (by decide +kernel)
theorem q5_209 : Cond.methodLink "JesterUnionModel" 144 ⟨"JesterUnionModel", "earns", "(II)V"⟩ ∈ gw := gk5 (List.mem_of_getElem? (i := 209) (by decide +kernel)) (by decide +kernel)
theorem q5_211 : Cond.instanceMethod ⟨"JesterUnionModel", "earns", "(II)V"⟩ ∈ gw := gk5 (List.mem_of_getElem? (i := 211) (by decide +kernel)) (by decide +kernel)
theorem q5_212 : Cond.code ⟨"JesterUnionModel", "earns", "(II)V"⟩ prog_9_method_17_code 4 (Option.none : Option FieldType) ∈ gw := gk5 (List.mem_of_getElem? (i := 212) (by decide +kernel)) (by decide +kernel)
theorem q5_213 : Cond.methodLink "JesterUnionModel" 148 ⟨"JesterUnionModel", "tells", "(III)I"⟩ ∈ gw := gk5 (List.mem_of_getElem? (i := 213) (by decide +kernel)) (by decide +kernel)
theorem q5_215 : Cond.instanceMethod ⟨"JesterUnionModel", "tells", "(III)I"⟩ ∈ gw := gk5 (List.mem_of_getElem? (i := 215) (by decide +kernel)) (by decide +kernel)
theorem q5_216 : Cond.code ⟨"JesterUnionModel", "tells", "(III)I"⟩ prog_9_method_44_code 5 (Option.some FieldType.int) ∈ gw := gk5 (List.mem_of_getElem? (i := 216) (by decide +kernel)) (by decide +kernel)
theorem q5_217 : Cond.methodLink "JesterUnionModel" 137 ⟨"JesterUnionModel", "laughs", "(III)I"⟩ ∈ gw := gk5 (List.mem_of_getElem? (i := 217) (by decide +kernel)) (by decide +kernel)
theorem q5_219 : Cond.instanceMethod ⟨"JesterUnionModel", "laughs", "(III)I"⟩ ∈ gw := gk5 (List.mem_of_getElem? (i := 219) (by decide +kernel)) (by decide +kernel)
theorem q5_220 : Cond.code ⟨"JesterUnionModel", "laughs", "(III)I"⟩ prog_9_method_42_code 5 (Option.some FieldType.int) ∈ gw := gk5 (List.mem_of_getElem? (i := 220) (by decide +kernel)) (by decide +kernel)
theorem q5_221 : Cond.methodLink "JesterUnionModel" 140 ⟨"JesterUnionModel", "slips", "(I)V"⟩ ∈ gw := gk5 (List.mem_of_getElem? (i := 221) (by decide +kernel)) (by decide +kernel)
theorem q5_223 : Cond.instanceMethod ⟨"JesterUnionModel", "slips", "(I)V"⟩ ∈ gw := gk5 (List.mem_of_getElem? (i := 223) (by decide +kernel)) (by decide +kernel)
theorem q5_224 : Cond.code ⟨"JesterUnionModel", "slips", "(I)V"⟩ prog_9_method_43_code 2 (Option.none : Option FieldType) ∈ gw := gk5 (List.mem_of_getElem? (i := 224) (by decide +kernel)) (by decide +kernel)
theorem q5_225 : Cond.methodLink "JesterUnionLaw" 69 ⟨"JesterUnionModel", "pass", "(I)I"⟩ ∈ gw := gk5 (List.mem_of_getElem? (i := 225) (by decide +kernel)) (by decide +kernel)
theorem q5_226 : Cond.instanceMethod ⟨"JesterUnionModel", "pass", "(I)I"⟩ ∈ gw := gk5 (List.mem_of_getElem? (i := 226) (by decide +kernel)) (by decide +kernel)
theorem q5_227 : Cond.selects "JesterUnionModel" ⟨"JesterUnionModel", "pass", "(I)I"⟩ ⟨"JesterUnionModel", "pass", "(I)I"⟩ ∈ gw := gk5 (List.mem_of_getElem? (i := 227) (by decide +kernel)) (by decide +kernel)
theorem q5_228 : Cond.code ⟨"JesterUnionModel", "pass", "(I)I"⟩ prog_9_method_48_code 2 (Option.some FieldType.int) ∈ gw := gk5 (List.mem_of_getElem? (i := 228) (by decide +kernel)) (by decide +kernel)
theorem q5_229 : Cond.methodLink "JesterUnionModel" 155 ⟨"JesterUnionModel", "passes", "(I)I"⟩ ∈ gw := gk5 (List.mem_of_getElem? (i := 229) (by decide +kernel)) (by decide +kernel)
theorem q5_231 : Cond.instanceMethod ⟨"JesterUnionModel", "passes", "(I)I"⟩ ∈ gw := gk5 (List.mem_of_getElem? (i := 231) (by decide +kernel)) (by decide +kernel)
theorem q5_232 : Cond.code ⟨"JesterUnionModel", "passes", "(I)I"⟩ prog_9_method_47_code 3 (Option.some FieldType.int) ∈ gw := gk5 (List.mem_of_getElem? (i := 232) (by decide +kernel)) (by decide +kernel)
theorem q5_233 : Cond.methodLink "JesterUnionLaw" 73 ⟨"JesterUnionModel", "booking", "(II)I"⟩ ∈ gw := gk5 (List.mem_of_getElem? (i := 233) (by decide +kernel)) (by decide +kernel)
theorem q5_234 : Cond.instanceMethod ⟨"JesterUnionModel", "booking", "(II)I"⟩ ∈ gw := gk5 (List.mem_of_getElem? (i := 234) (by decide +kernel)) (by decide +kernel)
theorem q5_235 : Cond.selects "JesterUnionModel" ⟨"JesterUnionModel", "booking", "(II)I"⟩ ⟨"JesterUnionModel", "booking", "(II)I"⟩ ∈ gw := gk5 (List.mem_of_getElem? (i := 235) (by decide +kernel)) (by decide +kernel)
theorem q5_236 : Cond.code ⟨"JesterUnionModel", "booking", "(II)I"⟩ prog_9_method_49_code 3 (Option.some FieldType.int) ∈ gw := gk5 (List.mem_of_getElem? (i := 236) (by decide +kernel)) (by decide +kernel)
theorem q5_237 : Cond.methodLink "JesterUnionLaw" 77 ⟨"JesterUnionModel", "would", "(III)I"⟩ ∈ gw := gk5 (List.mem_of_getElem? (i := 237) (by decide +kernel)) (by decide +kernel)
theorem q5_238 : Cond.instanceMethod ⟨"JesterUnionModel", "would", "(III)I"⟩ ∈ gw := gk5 (List.mem_of_getElem? (i := 238) (by decide +kernel)) (by decide +kernel)
theorem q5_239 : Cond.selects "JesterUnionModel" ⟨"JesterUnionModel", "would", "(III)I"⟩ ⟨"JesterUnionModel", "would", "(III)I"⟩ ∈ gw := gk5 (List.mem_of_getElem? (i := 239) (by decide +kernel)) (by decide +kernel)
theorem q6_0 : Cond.code ⟨"JesterUnionModel", "would", "(III)I"⟩ prog_9_method_51_code 4 (Option.some FieldType.int) ∈ gw := gk6 (List.mem_of_getElem? (i := 0) (by decide +kernel)) (by decide +kernel)
theorem q6_1 : Cond.methodLink "JesterUnionModel" 158 ⟨"JesterUnionModel", "wouldGet", "(III)I"⟩ ∈ gw := gk6 (List.mem_of_getElem? (i := 1) (by decide +kernel)) (by decide +kernel)
theorem q6_3 : Cond.instanceMethod ⟨"JesterUnionModel", "wouldGet", "(III)I"⟩ ∈ gw := gk6 (List.mem_of_getElem? (i := 3) (by decide +kernel)) (by decide +kernel)
theorem q6_4 : Cond.code ⟨"JesterUnionModel", "wouldGet", "(III)I"⟩ prog_9_method_50_code 4 (Option.some FieldType.int) ∈ gw := gk6 (List.mem_of_getElem? (i := 4) (by decide +kernel)) (by decide +kernel)
theorem q6_5 : Cond.methodLink "JesterUnionLaw" 81 ⟨"JesterUnionModel", "best", "(II)I"⟩ ∈ gw := gk6 (List.mem_of_getElem? (i := 5) (by decide +kernel)) (by decide +kernel)
theorem q6_6 : Cond.instanceMethod ⟨"JesterUnionModel", "best", "(II)I"⟩ ∈ gw := gk6 (List.mem_of_getElem? (i := 6) (by decide +kernel)) (by decide +kernel)
theorem q6_7 : Cond.selects "JesterUnionModel" ⟨"JesterUnionModel", "best", "(II)I"⟩ ⟨"JesterUnionModel", "best", "(II)I"⟩ ∈ gw := gk6 (List.mem_of_getElem? (i := 7) (by decide +kernel)) (by decide +kernel)
theorem q6_8 : Cond.code ⟨"JesterUnionModel", "best", "(II)I"⟩ prog_9_method_52_code 7 (Option.some FieldType.int) ∈ gw := gk6 (List.mem_of_getElem? (i := 8) (by decide +kernel)) (by decide +kernel)
theorem q6_9 : Cond.methodLink "JesterUnionLaw" 85 ⟨"JesterUnionModel", "bestAgain", "(II)I"⟩ ∈ gw := gk6 (List.mem_of_getElem? (i := 9) (by decide +kernel)) (by decide +kernel)
theorem q6_10 : Cond.instanceMethod ⟨"JesterUnionModel", "bestAgain", "(II)I"⟩ ∈ gw := gk6 (List.mem_of_getElem? (i := 10) (by decide +kernel)) (by decide +kernel)
theorem q6_11 : Cond.selects "JesterUnionModel" ⟨"JesterUnionModel", "bestAgain", "(II)I"⟩ ⟨"JesterUnionModel", "bestAgain", "(II)I"⟩ ∈ gw := gk6 (List.mem_of_getElem? (i := 11) (by decide +kernel)) (by decide +kernel)
theorem q6_12 : Cond.code ⟨"JesterUnionModel", "bestAgain", "(II)I"⟩ prog_9_method_53_code 3 (Option.some FieldType.int) ∈ gw := gk6 (List.mem_of_getElem? (i := 12) (by decide +kernel)) (by decide +kernel)
theorem q6_13 : Cond.methodLink "JesterUnionModel" 161 ⟨"JesterUnionModel", "best", "(II)I"⟩ ∈ gw := gk6 (List.mem_of_getElem? (i := 13) (by decide +kernel)) (by decide +kernel)
theorem q6_14 : Cond.methodLink "JesterUnionLaw" 89 ⟨"JesterUnionModel", "ends", "()I"⟩ ∈ gw := gk6 (List.mem_of_getElem? (i := 14) (by decide +kernel)) (by decide +kernel)
theorem q6_15 : Cond.instanceMethod ⟨"JesterUnionModel", "ends", "()I"⟩ ∈ gw := gk6 (List.mem_of_getElem? (i := 15) (by decide +kernel)) (by decide +kernel)
theorem q6_16 : Cond.selects "JesterUnionModel" ⟨"JesterUnionModel", "ends", "()I"⟩ ⟨"JesterUnionModel", "ends", "()I"⟩ ∈ gw := gk6 (List.mem_of_getElem? (i := 16) (by decide +kernel)) (by decide +kernel)
theorem q6_17 : Cond.code ⟨"JesterUnionModel", "ends", "()I"⟩ prog_9_method_54_code 3 (Option.some FieldType.int) ∈ gw := gk6 (List.mem_of_getElem? (i := 17) (by decide +kernel)) (by decide +kernel)
theorem q6_18 : Cond.methodLink "JesterUnionLaw" 93 ⟨"JesterUnionModel", "endsAgain", "()I"⟩ ∈ gw := gk6 (List.mem_of_getElem? (i := 18) (by decide +kernel)) (by decide +kernel)
theorem q6_19 : Cond.instanceMethod ⟨"JesterUnionModel", "endsAgain", "()I"⟩ ∈ gw := gk6 (List.mem_of_getElem? (i := 19) (by decide +kernel)) (by decide +kernel)
theorem q6_20 : Cond.selects "JesterUnionModel" ⟨"JesterUnionModel", "endsAgain", "()I"⟩ ⟨"JesterUnionModel", "endsAgain", "()I"⟩ ∈ gw := gk6 (List.mem_of_getElem? (i := 20) (by decide +kernel)) (by decide +kernel)
theorem q6_21 : Cond.code ⟨"JesterUnionModel", "endsAgain", "()I"⟩ prog_9_method_55_code 1 (Option.some FieldType.int) ∈ gw := gk6 (List.mem_of_getElem? (i := 21) (by decide +kernel)) (by decide +kernel)
theorem q6_22 : Cond.methodLink "JesterUnionModel" 164 ⟨"JesterUnionModel", "ends", "()I"⟩ ∈ gw := gk6 (List.mem_of_getElem? (i := 22) (by decide +kernel)) (by decide +kernel)
theorem q6_23 : Cond.methodLink "JesterUnionLaw" 97 ⟨"JesterUnionModel", "forecast", "()I"⟩ ∈ gw := gk6 (List.mem_of_getElem? (i := 23) (by decide +kernel)) (by decide +kernel)
theorem q6_24 : Cond.instanceMethod ⟨"JesterUnionModel", "forecast", "()I"⟩ ∈ gw := gk6 (List.mem_of_getElem? (i := 24) (by decide +kernel)) (by decide +kernel)
theorem q6_25 : Cond.selects "JesterUnionModel" ⟨"JesterUnionModel", "forecast", "()I"⟩ ⟨"JesterUnionModel", "forecast", "()I"⟩ ∈ gw := gk6 (List.mem_of_getElem? (i := 25) (by decide +kernel)) (by decide +kernel)
theorem q6_26 : Cond.code ⟨"JesterUnionModel", "forecast", "()I"⟩ prog_9_method_57_code 4 (Option.some FieldType.int) ∈ gw := gk6 (List.mem_of_getElem? (i := 26) (by decide +kernel)) (by decide +kernel)
theorem q6_27 : Cond.methodLink "JesterUnionModel" 167 ⟨"JesterUnionModel", "all", "(I)I"⟩ ∈ gw := gk6 (List.mem_of_getElem? (i := 27) (by decide +kernel)) (by decide +kernel)
theorem q6_29 : Cond.instanceMethod ⟨"JesterUnionModel", "all", "(I)I"⟩ ∈ gw := gk6 (List.mem_of_getElem? (i := 29) (by decide +kernel)) (by decide +kernel)
theorem q6_30 : Cond.code ⟨"JesterUnionModel", "all", "(I)I"⟩ prog_9_method_56_code 4 (Option.some FieldType.int) ∈ gw := gk6 (List.mem_of_getElem? (i := 30) (by decide +kernel)) (by decide +kernel)
theorem q6_31 : Cond.methodLink "JesterUnionLaw" 101 ⟨"JesterUnionModel", "ranked", "(I)I"⟩ ∈ gw := gk6 (List.mem_of_getElem? (i := 31) (by decide +kernel)) (by decide +kernel)
theorem q6_32 : Cond.instanceMethod ⟨"JesterUnionModel", "ranked", "(I)I"⟩ ∈ gw := gk6 (List.mem_of_getElem? (i := 32) (by decide +kernel)) (by decide +kernel)
theorem q6_33 : Cond.selects "JesterUnionModel" ⟨"JesterUnionModel", "ranked", "(I)I"⟩ ⟨"JesterUnionModel", "ranked", "(I)I"⟩ ∈ gw := gk6 (List.mem_of_getElem? (i := 33) (by decide +kernel)) (by decide +kernel)
theorem q6_34 : Cond.code ⟨"JesterUnionModel", "ranked", "(I)I"⟩ prog_9_method_58_code 6 (Option.some FieldType.int) ∈ gw := gk6 (List.mem_of_getElem? (i := 34) (by decide +kernel)) (by decide +kernel)
theorem q6_35 : Cond.methodLink "JesterUnionLaw" 105 ⟨"JesterUnionModel", "stalest", "(I)I"⟩ ∈ gw := gk6 (List.mem_of_getElem? (i := 35) (by decide +kernel)) (by decide +kernel)
theorem q6_36 : Cond.instanceMethod ⟨"JesterUnionModel", "stalest", "(I)I"⟩ ∈ gw := gk6 (List.mem_of_getElem? (i := 36) (by decide +kernel)) (by decide +kernel)
theorem q6_37 : Cond.selects "JesterUnionModel" ⟨"JesterUnionModel", "stalest", "(I)I"⟩ ⟨"JesterUnionModel", "stalest", "(I)I"⟩ ∈ gw := gk6 (List.mem_of_getElem? (i := 37) (by decide +kernel)) (by decide +kernel)
theorem q6_38 : Cond.code ⟨"JesterUnionModel", "stalest", "(I)I"⟩ prog_9_method_59_code 6 (Option.some FieldType.int) ∈ gw := gk6 (List.mem_of_getElem? (i := 38) (by decide +kernel)) (by decide +kernel)
theorem q6_39 : Cond.methodLink "JesterUnionLaw" 109 ⟨"JesterUnionModel", "append", "(I)I"⟩ ∈ gw := gk6 (List.mem_of_getElem? (i := 39) (by decide +kernel)) (by decide +kernel)
theorem q6_40 : Cond.instanceMethod ⟨"JesterUnionModel", "append", "(I)I"⟩ ∈ gw := gk6 (List.mem_of_getElem? (i := 40) (by decide +kernel)) (by decide +kernel)
theorem q6_41 : Cond.selects "JesterUnionModel" ⟨"JesterUnionModel", "append", "(I)I"⟩ ⟨"JesterUnionModel", "append", "(I)I"⟩ ∈ gw := gk6 (List.mem_of_getElem? (i := 41) (by decide +kernel)) (by decide +kernel)
theorem q6_42 : Cond.code ⟨"JesterUnionModel", "append", "(I)I"⟩ prog_9_method_62_code 2 (Option.some FieldType.int) ∈ gw := gk6 (List.mem_of_getElem? (i := 42) (by decide +kernel)) (by decide +kernel)
theorem q6_43 : Cond.methodLink "JesterUnionLaw" 113 ⟨"JesterUnionModel", "run", "()I"⟩ ∈ gw := gk6 (List.mem_of_getElem? (i := 43) (by decide +kernel)) (by decide +kernel)
theorem q6_44 : Cond.instanceMethod ⟨"JesterUnionModel", "run", "()I"⟩ ∈ gw := gk6 (List.mem_of_getElem? (i := 44) (by decide +kernel)) (by decide +kernel)
theorem q6_45 : Cond.selects "JesterUnionModel" ⟨"JesterUnionModel", "run", "()I"⟩ ⟨"JesterUnionModel", "run", "()I"⟩ ∈ gw := gk6 (List.mem_of_getElem? (i := 45) (by decide +kernel)) (by decide +kernel)
theorem q6_46 : Cond.code ⟨"JesterUnionModel", "run", "()I"⟩ prog_9_method_72_code 2 (Option.some FieldType.int) ∈ gw := gk6 (List.mem_of_getElem? (i := 46) (by decide +kernel)) (by decide +kernel)
theorem q6_47 : Cond.methodLink "JesterUnionModel" 217 ⟨"JesterUnionModel", "orders", "()I"⟩ ∈ gw := gk6 (List.mem_of_getElem? (i := 47) (by decide +kernel)) (by decide +kernel)
theorem q6_49 : Cond.instanceMethod ⟨"JesterUnionModel", "orders", "()I"⟩ ∈ gw := gk6 (List.mem_of_getElem? (i := 49) (by decide +kernel)) (by decide +kernel)
theorem q6_50 : Cond.code ⟨"JesterUnionModel", "orders", "()I"⟩ prog_9_method_71_code 2 (Option.some FieldType.int) ∈ gw := gk6 (List.mem_of_getElem? (i := 50) (by decide +kernel)) (by decide +kernel)
theorem q6_51 : Cond.methodLink "JesterUnionModel" 214 ⟨"JesterUnionModel", "order", "()V"⟩ ∈ gw := gk6 (List.mem_of_getElem? (i := 51) (by decide +kernel)) (by decide +kernel)
theorem q6_53 : Cond.instanceMethod ⟨"JesterUnionModel", "order", "()V"⟩ ∈ gw := gk6 (List.mem_of_getElem? (i := 53) (by decide +kernel)) (by decide +kernel)
theorem q6_54 : Cond.code ⟨"JesterUnionModel", "order", "()V"⟩ prog_9_method_70_code 7 (Option.none : Option FieldType) ∈ gw := gk6 (List.mem_of_getElem? (i := 54) (by decide +kernel)) (by decide +kernel)
theorem q6_55 : Cond.methodLink "JesterUnionModel" 189 ⟨"JesterUnionModel", "sign", "()I"⟩ ∈ gw := gk6 (List.mem_of_getElem? (i := 55) (by decide +kernel)) (by decide +kernel)
theorem q6_57 : Cond.instanceMethod ⟨"JesterUnionModel", "sign", "()I"⟩ ∈ gw := gk6 (List.mem_of_getElem? (i := 57) (by decide +kernel)) (by decide +kernel)
theorem q6_58 : Cond.code ⟨"JesterUnionModel", "sign", "()I"⟩ prog_9_method_63_code 1 (Option.some FieldType.int) ∈ gw := gk6 (List.mem_of_getElem? (i := 58) (by decide +kernel)) (by decide +kernel)
theorem q6_59 : Cond.methodLink "JesterUnionModel" 198 ⟨"JesterUnionModel", "isKnown", "(I)Z"⟩ ∈ gw := gk6 (List.mem_of_getElem? (i := 59) (by decide +kernel)) (by decide +kernel)
theorem q6_60 : Cond.static ⟨"JesterUnionModel", "isKnown", "(I)Z"⟩ ∈ gw := gk6 (List.mem_of_getElem? (i := 60) (by decide +kernel)) (by decide +kernel)
theorem q6_61 : Cond.code ⟨"JesterUnionModel", "isKnown", "(I)Z"⟩ prog_9_method_69_code 1 (Option.some FieldType.boolean) ∈ gw := gk6 (List.mem_of_getElem? (i := 61) (by decide +kernel)) (by decide +kernel)
theorem q6_62 : Cond.methodLink "JesterUnionModel" 195 ⟨"JesterUnionModel", "digits", "(I)I"⟩ ∈ gw := gk6 (List.mem_of_getElem? (i := 62) (by decide +kernel)) (by decide +kernel)
theorem q6_64 : Cond.instanceMethod ⟨"JesterUnionModel", "digits", "(I)I"⟩ ∈ gw := gk6 (List.mem_of_getElem? (i := 64) (by decide +kernel)) (by decide +kernel)
theorem q6_65 : Cond.code ⟨"JesterUnionModel", "digits", "(I)I"⟩ prog_9_method_65_code 4 (Option.some FieldType.int) ∈ gw := gk6 (List.mem_of_getElem? (i := 65) (by decide +kernel)) (by decide +kernel)
theorem q6_66 : Cond.methodLink "JesterUnionModel" 201 ⟨"JesterUnionModel", "behind", "(II)I"⟩ ∈ gw := gk6 (List.mem_of_getElem? (i := 66) (by decide +kernel)) (by decide +kernel)
theorem q6_68 : Cond.instanceMethod ⟨"JesterUnionModel", "behind", "(II)I"⟩ ∈ gw := gk6 (List.mem_of_getElem? (i := 68) (by decide +kernel)) (by decide +kernel)
theorem q6_69 : Cond.code ⟨"JesterUnionModel", "behind", "(II)I"⟩ prog_9_method_66_code 3 (Option.some FieldType.int) ∈ gw := gk6 (List.mem_of_getElem? (i := 69) (by decide +kernel)) (by decide +kernel)
theorem q6_70 : Cond.methodLink "JesterUnionModel" 192 ⟨"JesterUnionModel", "mark", "(I)V"⟩ ∈ gw := gk6 (List.mem_of_getElem? (i := 70) (by decide +kernel)) (by decide +kernel)
theorem q6_72 : Cond.instanceMethod ⟨"JesterUnionModel", "mark", "(I)V"⟩ ∈ gw := gk6 (List.mem_of_getElem? (i := 72) (by decide +kernel)) (by decide +kernel)
theorem q6_73 : Cond.code ⟨"JesterUnionModel", "mark", "(I)V"⟩ prog_9_method_64_code 2 (Option.none : Option FieldType) ∈ gw := gk6 (List.mem_of_getElem? (i := 73) (by decide +kernel)) (by decide +kernel)
theorem q6_74 : Cond.methodLink "JesterUnionModel" 204 ⟨"JesterUnionModel", "plus", "()I"⟩ ∈ gw := gk6 (List.mem_of_getElem? (i := 74) (by decide +kernel)) (by decide +kernel)
theorem q6_76 : Cond.instanceMethod ⟨"JesterUnionModel", "plus", "()I"⟩ ∈ gw := gk6 (List.mem_of_getElem? (i := 76) (by decide +kernel)) (by decide +kernel)
theorem q6_77 : Cond.code ⟨"JesterUnionModel", "plus", "()I"⟩ prog_9_method_67_code 2 (Option.some FieldType.int) ∈ gw := gk6 (List.mem_of_getElem? (i := 77) (by decide +kernel)) (by decide +kernel)
theorem q6_78 : Cond.methodLink "JesterUnionModel" 210 ⟨"JesterUnionModel", "does", "(IIIII)I"⟩ ∈ gw := gk6 (List.mem_of_getElem? (i := 78) (by decide +kernel)) (by decide +kernel)
theorem q6_80 : Cond.instanceMethod ⟨"JesterUnionModel", "does", "(IIIII)I"⟩ ∈ gw := gk6 (List.mem_of_getElem? (i := 80) (by decide +kernel)) (by decide +kernel)
theorem q6_81 : Cond.code ⟨"JesterUnionModel", "does", "(IIIII)I"⟩ prog_9_method_68_code 6 (Option.some FieldType.int) ∈ gw := gk6 (List.mem_of_getElem? (i := 81) (by decide +kernel)) (by decide +kernel)
theorem q6_82 : Cond.methodLink "JesterUnionLaw" 117 ⟨"JesterUnionModel", "tell", "(I)I"⟩ ∈ gw := gk6 (List.mem_of_getElem? (i := 82) (by decide +kernel)) (by decide +kernel)
theorem q6_83 : Cond.instanceMethod ⟨"JesterUnionModel", "tell", "(I)I"⟩ ∈ gw := gk6 (List.mem_of_getElem? (i := 83) (by decide +kernel)) (by decide +kernel)
theorem q6_84 : Cond.selects "JesterUnionModel" ⟨"JesterUnionModel", "tell", "(I)I"⟩ ⟨"JesterUnionModel", "tell", "(I)I"⟩ ∈ gw := gk6 (List.mem_of_getElem? (i := 84) (by decide +kernel)) (by decide +kernel)
theorem q6_85 : Cond.code ⟨"JesterUnionModel", "tell", "(I)I"⟩ prog_9_method_73_code 3 (Option.some FieldType.int) ∈ gw := gk6 (List.mem_of_getElem? (i := 85) (by decide +kernel)) (by decide +kernel)
theorem q6_86 : Cond.methodLink "JesterUnionModel" 220 ⟨"JesterUnionModel", "writesNumber", "(I)V"⟩ ∈ gw := gk6 (List.mem_of_getElem? (i := 86) (by decide +kernel)) (by decide +kernel)
theorem q6_88 : Cond.instanceMethod ⟨"JesterUnionModel", "writesNumber", "(I)V"⟩ ∈ gw := gk6 (List.mem_of_getElem? (i := 88) (by decide +kernel)) (by decide +kernel)
theorem q6_89 : Cond.code ⟨"JesterUnionModel", "writesNumber", "(I)V"⟩ prog_9_method_61_code 3 (Option.none : Option FieldType) ∈ gw := gk6 (List.mem_of_getElem? (i := 89) (by decide +kernel)) (by decide +kernel)
theorem q6_90 : Cond.methodLink "JesterUnionModel" 173 ⟨"JesterUnionModel", "writes", "(I)V"⟩ ∈ gw := gk6 (List.mem_of_getElem? (i := 90) (by decide +kernel)) (by decide +kernel)
theorem q6_92 : Cond.instanceMethod ⟨"JesterUnionModel", "writes", "(I)V"⟩ ∈ gw := gk6 (List.mem_of_getElem? (i := 92) (by decide +kernel)) (by decide +kernel)
theorem q6_93 : Cond.code ⟨"JesterUnionModel", "writes", "(I)V"⟩ prog_9_method_60_code 2 (Option.none : Option FieldType) ∈ gw := gk6 (List.mem_of_getElem? (i := 93) (by decide +kernel)) (by decide +kernel)
theorem q6_94 : Cond.methodLink "JesterUnionLaw" 121 ⟨"JesterUnionModel", "tellBookings", "()I"⟩ ∈ gw := gk6 (List.mem_of_getElem? (i := 94) (by decide +kernel)) (by decide +kernel)
theorem q6_95 : Cond.instanceMethod ⟨"JesterUnionModel", "tellBookings", "()I"⟩ ∈ gw := gk6 (List.mem_of_getElem? (i := 95) (by decide +kernel)) (by decide +kernel)
theorem q6_96 : Cond.selects "JesterUnionModel" ⟨"JesterUnionModel", "tellBookings", "()I"⟩ ⟨"JesterUnionModel", "tellBookings", "()I"⟩ ∈ gw := gk6 (List.mem_of_getElem? (i := 96) (by decide +kernel)) (by decide +kernel)
theorem q6_97 : Cond.code ⟨"JesterUnionModel", "tellBookings", "()I"⟩ prog_9_method_74_code 2 (Option.some FieldType.int) ∈ gw := gk6 (List.mem_of_getElem? (i := 97) (by decide +kernel)) (by decide +kernel)
theorem q6_98 : Cond.methodLink "JesterUnionLaw" 125 ⟨"JesterUnionModel", "character", "(I)I"⟩ ∈ gw := gk6 (List.mem_of_getElem? (i := 98) (by decide +kernel)) (by decide +kernel)
theorem q6_99 : Cond.instanceMethod ⟨"JesterUnionModel", "character", "(I)I"⟩ ∈ gw := gk6 (List.mem_of_getElem? (i := 99) (by decide +kernel)) (by decide +kernel)
theorem q6_100 : Cond.selects "JesterUnionModel" ⟨"JesterUnionModel", "character", "(I)I"⟩ ⟨"JesterUnionModel", "character", "(I)I"⟩ ∈ gw := gk6 (List.mem_of_getElem? (i := 100) (by decide +kernel)) (by decide +kernel)
theorem q6_101 : Cond.code ⟨"JesterUnionModel", "character", "(I)I"⟩ prog_9_method_75_code 2 (Option.some FieldType.int) ∈ gw := gk6 (List.mem_of_getElem? (i := 101) (by decide +kernel)) (by decide +kernel)
theorem q6_102 : Cond.methodLink "JesterUnionLaw" 130 ⟨"JesterUnionModel", "reason", "(Z)I"⟩ ∈ gw := gk6 (List.mem_of_getElem? (i := 102) (by decide +kernel)) (by decide +kernel)
theorem q6_103 : Cond.instanceMethod ⟨"JesterUnionModel", "reason", "(Z)I"⟩ ∈ gw := gk6 (List.mem_of_getElem? (i := 103) (by decide +kernel)) (by decide +kernel)
theorem q6_104 : Cond.selects "JesterUnionModel" ⟨"JesterUnionModel", "reason", "(Z)I"⟩ ⟨"JesterUnionModel", "reason", "(Z)I"⟩ ∈ gw := gk6 (List.mem_of_getElem? (i := 104) (by decide +kernel)) (by decide +kernel)
theorem q6_105 : Cond.code ⟨"JesterUnionModel", "reason", "(Z)I"⟩ prog_9_method_76_code 2 (Option.some FieldType.int) ∈ gw := gk6 (List.mem_of_getElem? (i := 105) (by decide +kernel)) (by decide +kernel)
theorem q6_106 : Cond.methodLink "JesterUnionLaw" 134 ⟨"JesterUnionModel", "account", "(I)I"⟩ ∈ gw := gk6 (List.mem_of_getElem? (i := 106) (by decide +kernel)) (by decide +kernel)
theorem q6_107 : Cond.instanceMethod ⟨"JesterUnionModel", "account", "(I)I"⟩ ∈ gw := gk6 (List.mem_of_getElem? (i := 107) (by decide +kernel)) (by decide +kernel)
theorem q6_108 : Cond.selects "JesterUnionModel" ⟨"JesterUnionModel", "account", "(I)I"⟩ ⟨"JesterUnionModel", "account", "(I)I"⟩ ∈ gw := gk6 (List.mem_of_getElem? (i := 108) (by decide +kernel)) (by decide +kernel)
theorem q6_109 : Cond.code ⟨"JesterUnionModel", "account", "(I)I"⟩ prog_9_method_77_code 2 (Option.some FieldType.int) ∈ gw := gk6 (List.mem_of_getElem? (i := 109) (by decide +kernel)) (by decide +kernel)
theorem q6_110 : Cond.methodLink "JesterUnionLaw" 138 ⟨"JesterUnionModel", "isBalanced", "()I"⟩ ∈ gw := gk6 (List.mem_of_getElem? (i := 110) (by decide +kernel)) (by decide +kernel)
theorem q6_111 : Cond.instanceMethod ⟨"JesterUnionModel", "isBalanced", "()I"⟩ ∈ gw := gk6 (List.mem_of_getElem? (i := 111) (by decide +kernel)) (by decide +kernel)
theorem q6_112 : Cond.selects "JesterUnionModel" ⟨"JesterUnionModel", "isBalanced", "()I"⟩ ⟨"JesterUnionModel", "isBalanced", "()I"⟩ ∈ gw := gk6 (List.mem_of_getElem? (i := 112) (by decide +kernel)) (by decide +kernel)
theorem q6_113 : Cond.code ⟨"JesterUnionModel", "isBalanced", "()I"⟩ prog_9_method_78_code 1 (Option.some FieldType.int) ∈ gw := gk6 (List.mem_of_getElem? (i := 113) (by decide +kernel)) (by decide +kernel)
theorem q6_114 : Cond.methodLink "JesterUnionLaw" 143 ⟨"JesterUnionModel", "meanWit", "()D"⟩ ∈ gw := gk6 (List.mem_of_getElem? (i := 114) (by decide +kernel)) (by decide +kernel)
theorem q6_115 : Cond.instanceMethod ⟨"JesterUnionModel", "meanWit", "()D"⟩ ∈ gw := gk6 (List.mem_of_getElem? (i := 115) (by decide +kernel)) (by decide +kernel)
theorem q6_116 : Cond.selects "JesterUnionModel" ⟨"JesterUnionModel", "meanWit", "()D"⟩ ⟨"JesterUnionModel", "meanWit", "()D"⟩ ∈ gw := gk6 (List.mem_of_getElem? (i := 116) (by decide +kernel)) (by decide +kernel)
theorem q6_117 : Cond.code ⟨"JesterUnionModel", "meanWit", "()D"⟩ prog_9_method_79_code 3 (Option.some FieldType.double) ∈ gw := gk6 (List.mem_of_getElem? (i := 117) (by decide +kernel)) (by decide +kernel)
theorem q6_118 : Cond.methodLink "JesterUnionLaw" 148 ⟨"JesterUnionModel", "slipShare", "()F"⟩ ∈ gw := gk6 (List.mem_of_getElem? (i := 118) (by decide +kernel)) (by decide +kernel)
theorem q6_119 : Cond.instanceMethod ⟨"JesterUnionModel", "slipShare", "()F"⟩ ∈ gw := gk6 (List.mem_of_getElem? (i := 119) (by decide +kernel)) (by decide +kernel)
theorem q6_120 : Cond.selects "JesterUnionModel" ⟨"JesterUnionModel", "slipShare", "()F"⟩ ⟨"JesterUnionModel", "slipShare", "()F"⟩ ∈ gw := gk6 (List.mem_of_getElem? (i := 120) (by decide +kernel)) (by decide +kernel)
theorem q6_121 : Cond.code ⟨"JesterUnionModel", "slipShare", "()F"⟩ prog_9_method_80_code 1 (Option.some FieldType.float) ∈ gw := gk6 (List.mem_of_getElem? (i := 121) (by decide +kernel)) (by decide +kernel)
theorem q6_122 : Cond.methodLink "JesterUnionLaw" 152 ⟨"JesterUnionModel", "undo", "()I"⟩ ∈ gw := gk6 (List.mem_of_getElem? (i := 122) (by decide +kernel)) (by decide +kernel)
theorem q6_123 : Cond.instanceMethod ⟨"JesterUnionModel", "undo", "()I"⟩ ∈ gw := gk6 (List.mem_of_getElem? (i := 123) (by decide +kernel)) (by decide +kernel)
theorem q6_124 : Cond.selects "JesterUnionModel" ⟨"JesterUnionModel", "undo", "()I"⟩ ⟨"JesterUnionModel", "undo", "()I"⟩ ∈ gw := gk6 (List.mem_of_getElem? (i := 124) (by decide +kernel)) (by decide +kernel)
theorem q6_125 : Cond.code ⟨"JesterUnionModel", "undo", "()I"⟩ prog_9_method_81_code 2 (Option.some FieldType.int) ∈ gw := gk6 (List.mem_of_getElem? (i := 125) (by decide +kernel)) (by decide +kernel)
theorem q6_126 : Cond.methodLink "JesterUnionLaw" 156 ⟨"JesterUnionModel", "save", "()I"⟩ ∈ gw := gk6 (List.mem_of_getElem? (i := 126) (by decide +kernel)) (by decide +kernel)
theorem q6_127 : Cond.instanceMethod ⟨"JesterUnionModel", "save", "()I"⟩ ∈ gw := gk6 (List.mem_of_getElem? (i := 127) (by decide +kernel)) (by decide +kernel)
theorem q6_128 : Cond.selects "JesterUnionModel" ⟨"JesterUnionModel", "save", "()I"⟩ ⟨"JesterUnionModel", "save", "()I"⟩ ∈ gw := gk6 (List.mem_of_getElem? (i := 128) (by decide +kernel)) (by decide +kernel)
theorem q6_129 : Cond.code ⟨"JesterUnionModel", "save", "()I"⟩ prog_9_method_82_code 1 (Option.some FieldType.int) ∈ gw := gk6 (List.mem_of_getElem? (i := 129) (by decide +kernel)) (by decide +kernel)
theorem q6_130 : Cond.methodLink "JesterUnionLaw" 160 ⟨"JesterUnionModel", "restore", "()I"⟩ ∈ gw := gk6 (List.mem_of_getElem? (i := 130) (by decide +kernel)) (by decide +kernel)
theorem q6_131 : Cond.instanceMethod ⟨"JesterUnionModel", "restore", "()I"⟩ ∈ gw := gk6 (List.mem_of_getElem? (i := 131) (by decide +kernel)) (by decide +kernel)
theorem q6_132 : Cond.selects "JesterUnionModel" ⟨"JesterUnionModel", "restore", "()I"⟩ ⟨"JesterUnionModel", "restore", "()I"⟩ ∈ gw := gk6 (List.mem_of_getElem? (i := 132) (by decide +kernel)) (by decide +kernel)
theorem q6_133 : Cond.code ⟨"JesterUnionModel", "restore", "()I"⟩ prog_9_method_83_code 1 (Option.some FieldType.int) ∈ gw := gk6 (List.mem_of_getElem? (i := 133) (by decide +kernel)) (by decide +kernel)
theorem q6_134 : Cond.sameMethod "java/lang/AbstractStringBuilder" "java/lang/AbstractStringBuilder" "length" "()I" ∈ gw := gk6 (List.mem_of_getElem? (i := 134) (by decide +kernel)) (by decide +kernel)
theorem q6_135 : Cond.sameMethod "java/lang/AbstractStringBuilder" "java/lang/AbstractStringBuilder" "append" "(C)Ljava/lang/AbstractStringBuilder;" ∈ gw := gk6 (List.mem_of_getElem? (i := 135) (by decide +kernel)) (by decide +kernel)
theorem q6_136 : Cond.sameMethod "java/lang/AbstractStringBuilder" "java/lang/AbstractStringBuilder" "ensureCapacityInternal" "(I)V" ∈ gw := gk6 (List.mem_of_getElem? (i := 136) (by decide +kernel)) (by decide +kernel)
theorem q6_137 : Cond.sameMethod "java/lang/AbstractStringBuilder" "java/lang/AbstractStringBuilder" "newCapacity" "(I)I" ∈ gw := gk6 (List.mem_of_getElem? (i := 137) (by decide +kernel)) (by decide +kernel)
theorem q6_138 : Cond.sameMethod "java/lang/AbstractStringBuilder" "java/lang/AbstractStringBuilder" "inflate" "()V" ∈ gw := gk6 (List.mem_of_getElem? (i := 138) (by decide +kernel)) (by decide +kernel)
theorem q6_139 : Cond.sameMethod "java/lang/AbstractStringBuilder" "java/lang/AbstractStringBuilder" "charAt" "(I)C" ∈ gw := gk6 (List.mem_of_getElem? (i := 139) (by decide +kernel)) (by decide +kernel)
theorem q6_140 : Cond.sameMethod "java/lang/AbstractStringBuilder" "java/lang/AbstractStringBuilder" "setLength" "(I)V" ∈ gw := gk6 (List.mem_of_getElem? (i := 140) (by decide +kernel)) (by decide +kernel)
theorem q6_141 : Cond.sameMethod "java/lang/AbstractStringBuilder" "java/lang/AbstractStringBuilder" "append" "(I)Ljava/lang/AbstractStringBuilder;" ∈ gw := gk6 (List.mem_of_getElem? (i := 141) (by decide +kernel)) (by decide +kernel)
theorem q6_142 : Cond.fieldLink "java/lang/String" 9 "java/lang/String" "value" "[B" ∈ gw := gk6 (List.mem_of_getElem? (i := 142) (by decide +kernel)) (by decide +kernel)
theorem q6_143 : Cond.fieldLink "java/lang/String" 15 "java/lang/String" "coder" "B" ∈ gw := gk6 (List.mem_of_getElem? (i := 143) (by decide +kernel)) (by decide +kernel)
theorem gw_sl {q : MethodName × Nat} (h : q ∈ lw_privs) : Cond.selects q.1.cls q.1 q.1 ∈ gw := List.mem_filter.mpr ⟨List.mem_append_left _ (List.mem_map.mpr ⟨q, h, rfl⟩), rfl⟩
theorem gp1 {q : MethodName × Nat} (h : q ∈ lw_privs_1) : Cond.selects q.1.cls q.1 q.1 ∈ gw := gw_sl (show q ∈ lw_privs_1 ++ (lw_privs_2 ++ (lw_privs_3 ++ (lw_privs_4 ++ (lw_privs_5)))) from List.mem_append_left _ h)
theorem s1_0 : Cond.selects "JesterUnion" ⟨"JesterUnion", "admit", "(I)I"⟩ ⟨"JesterUnion", "admit", "(I)I"⟩ ∈ gw := gp1 (q := (⟨"JesterUnion", "admit", "(I)I"⟩, 10)) (List.mem_of_getElem? (i := 0) (by decide +kernel))
theorem s1_1 : Cond.selects "JesterUnion" ⟨"JesterUnion", "refuse", "(II)I"⟩ ⟨"JesterUnion", "refuse", "(II)I"⟩ ∈ gw := gp1 (q := (⟨"JesterUnion", "refuse", "(II)I"⟩, 10)) (List.mem_of_getElem? (i := 1) (by decide +kernel))
theorem s1_2 : Cond.selects "JesterUnion" ⟨"JesterUnion", "remember", "(I)I"⟩ ⟨"JesterUnion", "remember", "(I)I"⟩ ∈ gw := gp1 (q := (⟨"JesterUnion", "remember", "(I)I"⟩, 10)) (List.mem_of_getElem? (i := 2) (by decide +kernel))
theorem s1_3 : Cond.selects "JesterUnion" ⟨"JesterUnion", "invent", "(I)I"⟩ ⟨"JesterUnion", "invent", "(I)I"⟩ ∈ gw := gp1 (q := (⟨"JesterUnion", "invent", "(I)I"⟩, 10)) (List.mem_of_getElem? (i := 3) (by decide +kernel))
theorem s1_4 : Cond.selects "JesterUnion" ⟨"JesterUnion", "grant", "(III)I"⟩ ⟨"JesterUnion", "grant", "(III)I"⟩ ∈ gw := gp1 (q := (⟨"JesterUnion", "grant", "(III)I"⟩, 10)) (List.mem_of_getElem? (i := 4) (by decide +kernel))
theorem s1_5 : Cond.selects "JesterUnion" ⟨"JesterUnion", "cover", "(I)I"⟩ ⟨"JesterUnion", "cover", "(I)I"⟩ ∈ gw := gp1 (q := (⟨"JesterUnion", "cover", "(I)I"⟩, 10)) (List.mem_of_getElem? (i := 5) (by decide +kernel))
theorem s1_6 : Cond.selects "JesterUnion" ⟨"JesterUnion", "collect", "(I)I"⟩ ⟨"JesterUnion", "collect", "(I)I"⟩ ∈ gw := gp1 (q := (⟨"JesterUnion", "collect", "(I)I"⟩, 10)) (List.mem_of_getElem? (i := 6) (by decide +kernel))
theorem s1_7 : Cond.selects "JesterUnion" ⟨"JesterUnion", "setExempt", "(II)I"⟩ ⟨"JesterUnion", "setExempt", "(II)I"⟩ ∈ gw := gp1 (q := (⟨"JesterUnion", "setExempt", "(II)I"⟩, 10)) (List.mem_of_getElem? (i := 7) (by decide +kernel))
theorem s1_8 : Cond.selects "JesterUnion" ⟨"JesterUnion", "reserve", "(IIII)I"⟩ ⟨"JesterUnion", "reserve", "(IIII)I"⟩ ∈ gw := gp1 (q := (⟨"JesterUnion", "reserve", "(IIII)I"⟩, 10)) (List.mem_of_getElem? (i := 8) (by decide +kernel))
theorem s1_9 : Cond.selects "JesterUnion$Court" ⟨"JesterUnion$Court", "isAhead", "(IIII)Z"⟩ ⟨"JesterUnion$Court", "isAhead", "(IIII)Z"⟩ ∈ gw := gp1 (q := (⟨"JesterUnion$Court", "isAhead", "(IIII)Z"⟩, 10)) (List.mem_of_getElem? (i := 9) (by decide +kernel))
theorem s1_10 : Cond.selects "JesterUnion$Bookings" ⟨"JesterUnion$Bookings", "move", "(II)V"⟩ ⟨"JesterUnion$Bookings", "move", "(II)V"⟩ ∈ gw := gp1 (q := (⟨"JesterUnion$Bookings", "move", "(II)V"⟩, 5)) (List.mem_of_getElem? (i := 10) (by decide +kernel))
theorem s1_11 : Cond.selects "JesterUnion" ⟨"JesterUnion", "carryNextOut", "()I"⟩ ⟨"JesterUnion", "carryNextOut", "()I"⟩ ∈ gw := gp1 (q := (⟨"JesterUnion", "carryNextOut", "()I"⟩, 10)) (List.mem_of_getElem? (i := 11) (by decide +kernel))
theorem s1_12 : Cond.selects "JesterUnion$Court" ⟨"JesterUnion$Court", "payFine", "(II)V"⟩ ⟨"JesterUnion$Court", "payFine", "(II)V"⟩ ∈ gw := gp1 (q := (⟨"JesterUnion$Court", "payFine", "(II)V"⟩, 10)) (List.mem_of_getElem? (i := 12) (by decide +kernel))
theorem s1_13 : Cond.selects "JesterUnion$Court" ⟨"JesterUnion$Court", "gain", "(II)V"⟩ ⟨"JesterUnion$Court", "gain", "(II)V"⟩ ∈ gw := gp1 (q := (⟨"JesterUnion$Court", "gain", "(II)V"⟩, 10)) (List.mem_of_getElem? (i := 13) (by decide +kernel))
theorem s1_14 : Cond.selects "JesterUnion$Court" ⟨"JesterUnion$Court", "perform", "(III)I"⟩ ⟨"JesterUnion$Court", "perform", "(III)I"⟩ ∈ gw := gp1 (q := (⟨"JesterUnion$Court", "perform", "(III)I"⟩, 10)) (List.mem_of_getElem? (i := 14) (by decide +kernel))
theorem s1_15 : Cond.selects "JesterUnion$Court" ⟨"JesterUnion$Court", "laughs", "(III)I"⟩ ⟨"JesterUnion$Court", "laughs", "(III)I"⟩ ∈ gw := gp1 (q := (⟨"JesterUnion$Court", "laughs", "(III)I"⟩, 10)) (List.mem_of_getElem? (i := 15) (by decide +kernel))
theorem gp2 {q : MethodName × Nat} (h : q ∈ lw_privs_2) : Cond.selects q.1.cls q.1 q.1 ∈ gw := gw_sl (show q ∈ lw_privs_1 ++ (lw_privs_2 ++ (lw_privs_3 ++ (lw_privs_4 ++ (lw_privs_5)))) from List.mem_append_right _ (List.mem_append_left _ h))
theorem s2_0 : Cond.selects "JesterUnion" ⟨"JesterUnion", "elapse", "(I)I"⟩ ⟨"JesterUnion", "elapse", "(I)I"⟩ ∈ gw := gp2 (q := (⟨"JesterUnion", "elapse", "(I)I"⟩, 10)) (List.mem_of_getElem? (i := 0) (by decide +kernel))
theorem s2_1 : Cond.selects "JesterUnion$Court" ⟨"JesterUnion$Court", "doesAnyEndAt", "(I)Z"⟩ ⟨"JesterUnion$Court", "doesAnyEndAt", "(I)Z"⟩ ∈ gw := gp2 (q := (⟨"JesterUnion$Court", "doesAnyEndAt", "(I)Z"⟩, 10)) (List.mem_of_getElem? (i := 1) (by decide +kernel))
theorem s2_2 : Cond.selects "JesterUnion$Fools" ⟨"JesterUnion$Fools", "countAhead", "(I)I"⟩ ⟨"JesterUnion$Fools", "countAhead", "(I)I"⟩ ∈ gw := gp2 (q := (⟨"JesterUnion$Fools", "countAhead", "(I)I"⟩, 7)) (List.mem_of_getElem? (i := 2) (by decide +kernel))
theorem s2_3 : Cond.selects "JesterUnion$Fools" ⟨"JesterUnion$Fools", "isAhead", "(II)Z"⟩ ⟨"JesterUnion$Fools", "isAhead", "(II)Z"⟩ ∈ gw := gp2 (q := (⟨"JesterUnion$Fools", "isAhead", "(II)Z"⟩, 7)) (List.mem_of_getElem? (i := 3) (by decide +kernel))
theorem s2_4 : Cond.selects "JesterUnion$Jokes" ⟨"JesterUnion$Jokes", "countAhead", "(I)I"⟩ ⟨"JesterUnion$Jokes", "countAhead", "(I)I"⟩ ∈ gw := gp2 (q := (⟨"JesterUnion$Jokes", "countAhead", "(I)I"⟩, 5)) (List.mem_of_getElem? (i := 4) (by decide +kernel))
theorem s2_5 : Cond.selects "JesterUnion$Jokes" ⟨"JesterUnion$Jokes", "isAhead", "(II)Z"⟩ ⟨"JesterUnion$Jokes", "isAhead", "(II)Z"⟩ ∈ gw := gp2 (q := (⟨"JesterUnion$Jokes", "isAhead", "(II)Z"⟩, 5)) (List.mem_of_getElem? (i := 5) (by decide +kernel))
theorem s2_6 : Cond.selects "JesterUnion$OrderText" ⟨"JesterUnion$OrderText", "readOrder", "()Z"⟩ ⟨"JesterUnion$OrderText", "readOrder", "()Z"⟩ ∈ gw := gp2 (q := (⟨"JesterUnion$OrderText", "readOrder", "()Z"⟩, 6)) (List.mem_of_getElem? (i := 6) (by decide +kernel))
theorem s2_7 : Cond.selects "JesterUnion$OrderText" ⟨"JesterUnion$OrderText", "readPart", "(C)Z"⟩ ⟨"JesterUnion$OrderText", "readPart", "(C)Z"⟩ ∈ gw := gp2 (q := (⟨"JesterUnion$OrderText", "readPart", "(C)Z"⟩, 6)) (List.mem_of_getElem? (i := 7) (by decide +kernel))
theorem s2_8 : Cond.selects "JesterUnion$OrderText" ⟨"JesterUnion$OrderText", "readNumber", "(I)Z"⟩ ⟨"JesterUnion$OrderText", "readNumber", "(I)Z"⟩ ∈ gw := gp2 (q := (⟨"JesterUnion$OrderText", "readNumber", "(I)Z"⟩, 6)) (List.mem_of_getElem? (i := 8) (by decide +kernel))
theorem s2_9 : Cond.selects "JesterUnion$OrderText" ⟨"JesterUnion$OrderText", "isDigitAhead", "()Z"⟩ ⟨"JesterUnion$OrderText", "isDigitAhead", "()Z"⟩ ∈ gw := gp2 (q := (⟨"JesterUnion$OrderText", "isDigitAhead", "()Z"⟩, 6)) (List.mem_of_getElem? (i := 9) (by decide +kernel))
theorem s2_10 : Cond.selects "JesterUnion$OrderText" ⟨"JesterUnion$OrderText", "keepNumber", "(I)V"⟩ ⟨"JesterUnion$OrderText", "keepNumber", "(I)V"⟩ ∈ gw := gp2 (q := (⟨"JesterUnion$OrderText", "keepNumber", "(I)V"⟩, 6)) (List.mem_of_getElem? (i := 10) (by decide +kernel))
theorem s2_11 : Cond.selects "JesterUnion$OrderText" ⟨"JesterUnion$OrderText", "readPlusOrMinus", "()Z"⟩ ⟨"JesterUnion$OrderText", "readPlusOrMinus", "()Z"⟩ ∈ gw := gp2 (q := (⟨"JesterUnion$OrderText", "readPlusOrMinus", "()Z"⟩, 6)) (List.mem_of_getElem? (i := 11) (by decide +kernel))
theorem s2_12 : Cond.selects "JesterUnion$OrderText" ⟨"JesterUnion$OrderText", "readSign", "(C)Z"⟩ ⟨"JesterUnion$OrderText", "readSign", "(C)Z"⟩ ∈ gw := gp2 (q := (⟨"JesterUnion$OrderText", "readSign", "(C)Z"⟩, 6)) (List.mem_of_getElem? (i := 12) (by decide +kernel))
theorem s2_13 : Cond.selects "JesterUnion" ⟨"JesterUnion", "carryOrderOut", "(I)I"⟩ ⟨"JesterUnion", "carryOrderOut", "(I)I"⟩ ∈ gw := gp2 (q := (⟨"JesterUnion", "carryOrderOut", "(I)I"⟩, 10)) (List.mem_of_getElem? (i := 13) (by decide +kernel))
theorem s2_14 : Cond.selects "JesterUnion" ⟨"JesterUnion", "write", "(CI)V"⟩ ⟨"JesterUnion", "write", "(CI)V"⟩ ∈ gw := gp2 (q := (⟨"JesterUnion", "write", "(CI)V"⟩, 10)) (List.mem_of_getElem? (i := 14) (by decide +kernel))
theorem s2_15 : Cond.selects "JesterUnion" ⟨"JesterUnion", "areCoinsAccountedFor", "()Z"⟩ ⟨"JesterUnion", "areCoinsAccountedFor", "()Z"⟩ ∈ gw := gp2 (q := (⟨"JesterUnion", "areCoinsAccountedFor", "()Z"⟩, 10)) (List.mem_of_getElem? (i := 15) (by decide +kernel))
theorem gp3 {q : MethodName × Nat} (h : q ∈ lw_privs_3) : Cond.selects q.1.cls q.1 q.1 ∈ gw := gw_sl (show q ∈ lw_privs_1 ++ (lw_privs_2 ++ (lw_privs_3 ++ (lw_privs_4 ++ (lw_privs_5)))) from List.mem_append_right _ (List.mem_append_right _ (List.mem_append_left _ h)))
theorem s3_0 : Cond.selects "JesterUnion" ⟨"JesterUnion", "areTellingsAccountedFor", "()Z"⟩ ⟨"JesterUnion", "areTellingsAccountedFor", "()Z"⟩ ∈ gw := gp3 (q := (⟨"JesterUnion", "areTellingsAccountedFor", "()Z"⟩, 10)) (List.mem_of_getElem? (i := 0) (by decide +kernel))
theorem s3_1 : Cond.selects "JesterUnion" ⟨"JesterUnion", "areBestsTheSame", "()Z"⟩ ⟨"JesterUnion", "areBestsTheSame", "()Z"⟩ ∈ gw := gp3 (q := (⟨"JesterUnion", "areBestsTheSame", "()Z"⟩, 10)) (List.mem_of_getElem? (i := 1) (by decide +kernel))
theorem s3_2 : Cond.selects "JesterUnionModel" ⟨"JesterUnionModel", "begins", "()V"⟩ ⟨"JesterUnionModel", "begins", "()V"⟩ ∈ gw := gp3 (q := (⟨"JesterUnionModel", "begins", "()V"⟩, 18)) (List.mem_of_getElem? (i := 2) (by decide +kernel))
theorem s3_3 : Cond.selects "JesterUnionModel" ⟨"JesterUnionModel", "comes", "(I)I"⟩ ⟨"JesterUnionModel", "comes", "(I)I"⟩ ∈ gw := gp3 (q := (⟨"JesterUnionModel", "comes", "(I)I"⟩, 18)) (List.mem_of_getElem? (i := 3) (by decide +kernel))
theorem s3_4 : Cond.selects "JesterUnionModel" ⟨"JesterUnionModel", "fail", "(I)I"⟩ ⟨"JesterUnionModel", "fail", "(I)I"⟩ ∈ gw := gp3 (q := (⟨"JesterUnionModel", "fail", "(I)I"⟩, 18)) (List.mem_of_getElem? (i := 4) (by decide +kernel))
theorem s3_5 : Cond.selects "JesterUnionModel" ⟨"JesterUnionModel", "refuses", "(II)I"⟩ ⟨"JesterUnionModel", "refuses", "(II)I"⟩ ∈ gw := gp3 (q := (⟨"JesterUnionModel", "refuses", "(II)I"⟩, 18)) (List.mem_of_getElem? (i := 5) (by decide +kernel))
theorem s3_6 : Cond.selects "JesterUnionModel" ⟨"JesterUnionModel", "closes", "(I)I"⟩ ⟨"JesterUnionModel", "closes", "(I)I"⟩ ∈ gw := gp3 (q := (⟨"JesterUnionModel", "closes", "(I)I"⟩, 18)) (List.mem_of_getElem? (i := 6) (by decide +kernel))
theorem s3_7 : Cond.selects "JesterUnionModel" ⟨"JesterUnionModel", "jokes", "(I)I"⟩ ⟨"JesterUnionModel", "jokes", "(I)I"⟩ ∈ gw := gp3 (q := (⟨"JesterUnionModel", "jokes", "(I)I"⟩, 18)) (List.mem_of_getElem? (i := 7) (by decide +kernel))
theorem s3_8 : Cond.selects "JesterUnionModel" ⟨"JesterUnionModel", "patents", "(III)I"⟩ ⟨"JesterUnionModel", "patents", "(III)I"⟩ ∈ gw := gp3 (q := (⟨"JesterUnionModel", "patents", "(III)I"⟩, 18)) (List.mem_of_getElem? (i := 8) (by decide +kernel))
theorem s3_9 : Cond.selects "JesterUnionModel" ⟨"JesterUnionModel", "isFool", "(I)Z"⟩ ⟨"JesterUnionModel", "isFool", "(I)Z"⟩ ∈ gw := gp3 (q := (⟨"JesterUnionModel", "isFool", "(I)Z"⟩, 18)) (List.mem_of_getElem? (i := 9) (by decide +kernel))
theorem s3_10 : Cond.selects "JesterUnionModel" ⟨"JesterUnionModel", "isJoke", "(I)Z"⟩ ⟨"JesterUnionModel", "isJoke", "(I)Z"⟩ ∈ gw := gp3 (q := (⟨"JesterUnionModel", "isJoke", "(I)Z"⟩, 18)) (List.mem_of_getElem? (i := 10) (by decide +kernel))
theorem s3_11 : Cond.selects "JesterUnionModel" ⟨"JesterUnionModel", "owner", "(I)I"⟩ ⟨"JesterUnionModel", "owner", "(I)I"⟩ ∈ gw := gp3 (q := (⟨"JesterUnionModel", "owner", "(I)I"⟩, 18)) (List.mem_of_getElem? (i := 11) (by decide +kernel))
theorem s3_12 : Cond.selects "JesterUnionModel" ⟨"JesterUnionModel", "pays", "(II)I"⟩ ⟨"JesterUnionModel", "pays", "(II)I"⟩ ∈ gw := gp3 (q := (⟨"JesterUnionModel", "pays", "(II)I"⟩, 18)) (List.mem_of_getElem? (i := 12) (by decide +kernel))
theorem s3_13 : Cond.selects "JesterUnionModel" ⟨"JesterUnionModel", "insures", "(I)I"⟩ ⟨"JesterUnionModel", "insures", "(I)I"⟩ ∈ gw := gp3 (q := (⟨"JesterUnionModel", "insures", "(I)I"⟩, 18)) (List.mem_of_getElem? (i := 13) (by decide +kernel))
theorem s3_14 : Cond.selects "JesterUnionModel" ⟨"JesterUnionModel", "audits", "(I)I"⟩ ⟨"JesterUnionModel", "audits", "(I)I"⟩ ∈ gw := gp3 (q := (⟨"JesterUnionModel", "audits", "(I)I"⟩, 18)) (List.mem_of_getElem? (i := 14) (by decide +kernel))
theorem s3_15 : Cond.selects "JesterUnionModel" ⟨"JesterUnionModel", "patentsOf", "(I)I"⟩ ⟨"JesterUnionModel", "patentsOf", "(I)I"⟩ ∈ gw := gp3 (q := (⟨"JesterUnionModel", "patentsOf", "(I)I"⟩, 18)) (List.mem_of_getElem? (i := 15) (by decide +kernel))
theorem gp4 {q : MethodName × Nat} (h : q ∈ lw_privs_4) : Cond.selects q.1.cls q.1 q.1 ∈ gw := gw_sl (show q ∈ lw_privs_1 ++ (lw_privs_2 ++ (lw_privs_3 ++ (lw_privs_4 ++ (lw_privs_5)))) from List.mem_append_right _ (List.mem_append_right _ (List.mem_append_right _ (List.mem_append_left _ h))))
theorem s4_0 : Cond.selects "JesterUnionModel" ⟨"JesterUnionModel", "bookings", "(II)I"⟩ ⟨"JesterUnionModel", "bookings", "(II)I"⟩ ∈ gw := gp4 (q := (⟨"JesterUnionModel", "bookings", "(II)I"⟩, 18)) (List.mem_of_getElem? (i := 0) (by decide +kernel))
theorem s4_1 : Cond.selects "JesterUnionModel" ⟨"JesterUnionModel", "booked", "(II)I"⟩ ⟨"JesterUnionModel", "booked", "(II)I"⟩ ∈ gw := gp4 (q := (⟨"JesterUnionModel", "booked", "(II)I"⟩, 18)) (List.mem_of_getElem? (i := 1) (by decide +kernel))
theorem s4_2 : Cond.selects "JesterUnionModel" ⟨"JesterUnionModel", "tellings", "(I)I"⟩ ⟨"JesterUnionModel", "tellings", "(I)I"⟩ ∈ gw := gp4 (q := (⟨"JesterUnionModel", "tellings", "(I)I"⟩, 18)) (List.mem_of_getElem? (i := 2) (by decide +kernel))
theorem s4_3 : Cond.selects "JesterUnionModel" ⟨"JesterUnionModel", "exempts", "(II)I"⟩ ⟨"JesterUnionModel", "exempts", "(II)I"⟩ ∈ gw := gp4 (q := (⟨"JesterUnionModel", "exempts", "(II)I"⟩, 18)) (List.mem_of_getElem? (i := 3) (by decide +kernel))
theorem s4_4 : Cond.selects "JesterUnionModel" ⟨"JesterUnionModel", "books", "(IIII)I"⟩ ⟨"JesterUnionModel", "books", "(IIII)I"⟩ ∈ gw := gp4 (q := (⟨"JesterUnionModel", "books", "(IIII)I"⟩, 18)) (List.mem_of_getElem? (i := 4) (by decide +kernel))
theorem s4_5 : Cond.selects "JesterUnionModel" ⟨"JesterUnionModel", "jokeFor", "(II)I"⟩ ⟨"JesterUnionModel", "jokeFor", "(II)I"⟩ ∈ gw := gp4 (q := (⟨"JesterUnionModel", "jokeFor", "(II)I"⟩, 18)) (List.mem_of_getElem? (i := 5) (by decide +kernel))
theorem s4_6 : Cond.selects "JesterUnionModel" ⟨"JesterUnionModel", "isBarred", "(II)Z"⟩ ⟨"JesterUnionModel", "isBarred", "(II)Z"⟩ ∈ gw := gp4 (q := (⟨"JesterUnionModel", "isBarred", "(II)Z"⟩, 18)) (List.mem_of_getElem? (i := 6) (by decide +kernel))
theorem s4_7 : Cond.selects "JesterUnionModel" ⟨"JesterUnionModel", "isAhead", "(IIII)Z"⟩ ⟨"JesterUnionModel", "isAhead", "(IIII)Z"⟩ ∈ gw := gp4 (q := (⟨"JesterUnionModel", "isAhead", "(IIII)Z"⟩, 18)) (List.mem_of_getElem? (i := 7) (by decide +kernel))
theorem s4_8 : Cond.selects "JesterUnionModel" ⟨"JesterUnionModel", "carries", "()I"⟩ ⟨"JesterUnionModel", "carries", "()I"⟩ ∈ gw := gp4 (q := (⟨"JesterUnionModel", "carries", "()I"⟩, 18)) (List.mem_of_getElem? (i := 8) (by decide +kernel))
theorem s4_9 : Cond.selects "JesterUnionModel" ⟨"JesterUnionModel", "earns", "(II)V"⟩ ⟨"JesterUnionModel", "earns", "(II)V"⟩ ∈ gw := gp4 (q := (⟨"JesterUnionModel", "earns", "(II)V"⟩, 18)) (List.mem_of_getElem? (i := 9) (by decide +kernel))
theorem s4_10 : Cond.selects "JesterUnionModel" ⟨"JesterUnionModel", "tells", "(III)I"⟩ ⟨"JesterUnionModel", "tells", "(III)I"⟩ ∈ gw := gp4 (q := (⟨"JesterUnionModel", "tells", "(III)I"⟩, 18)) (List.mem_of_getElem? (i := 10) (by decide +kernel))
theorem s4_11 : Cond.selects "JesterUnionModel" ⟨"JesterUnionModel", "laughs", "(III)I"⟩ ⟨"JesterUnionModel", "laughs", "(III)I"⟩ ∈ gw := gp4 (q := (⟨"JesterUnionModel", "laughs", "(III)I"⟩, 18)) (List.mem_of_getElem? (i := 11) (by decide +kernel))
theorem s4_12 : Cond.selects "JesterUnionModel" ⟨"JesterUnionModel", "slips", "(I)V"⟩ ⟨"JesterUnionModel", "slips", "(I)V"⟩ ∈ gw := gp4 (q := (⟨"JesterUnionModel", "slips", "(I)V"⟩, 18)) (List.mem_of_getElem? (i := 12) (by decide +kernel))
theorem s4_13 : Cond.selects "JesterUnionModel" ⟨"JesterUnionModel", "passes", "(I)I"⟩ ⟨"JesterUnionModel", "passes", "(I)I"⟩ ∈ gw := gp4 (q := (⟨"JesterUnionModel", "passes", "(I)I"⟩, 18)) (List.mem_of_getElem? (i := 13) (by decide +kernel))
theorem s4_14 : Cond.selects "JesterUnionModel" ⟨"JesterUnionModel", "wouldGet", "(III)I"⟩ ⟨"JesterUnionModel", "wouldGet", "(III)I"⟩ ∈ gw := gp4 (q := (⟨"JesterUnionModel", "wouldGet", "(III)I"⟩, 18)) (List.mem_of_getElem? (i := 14) (by decide +kernel))
theorem s4_15 : Cond.selects "JesterUnionModel" ⟨"JesterUnionModel", "all", "(I)I"⟩ ⟨"JesterUnionModel", "all", "(I)I"⟩ ∈ gw := gp4 (q := (⟨"JesterUnionModel", "all", "(I)I"⟩, 18)) (List.mem_of_getElem? (i := 15) (by decide +kernel))
theorem gp5 {q : MethodName × Nat} (h : q ∈ lw_privs_5) : Cond.selects q.1.cls q.1 q.1 ∈ gw := gw_sl (show q ∈ lw_privs_1 ++ (lw_privs_2 ++ (lw_privs_3 ++ (lw_privs_4 ++ (lw_privs_5)))) from List.mem_append_right _ (List.mem_append_right _ (List.mem_append_right _ (List.mem_append_right _ (h)))))
theorem s5_0 : Cond.selects "JesterUnionModel" ⟨"JesterUnionModel", "orders", "()I"⟩ ⟨"JesterUnionModel", "orders", "()I"⟩ ∈ gw := gp5 (q := (⟨"JesterUnionModel", "orders", "()I"⟩, 18)) (List.mem_of_getElem? (i := 0) (by decide +kernel))
theorem s5_1 : Cond.selects "JesterUnionModel" ⟨"JesterUnionModel", "order", "()V"⟩ ⟨"JesterUnionModel", "order", "()V"⟩ ∈ gw := gp5 (q := (⟨"JesterUnionModel", "order", "()V"⟩, 18)) (List.mem_of_getElem? (i := 1) (by decide +kernel))
theorem s5_2 : Cond.selects "JesterUnionModel" ⟨"JesterUnionModel", "sign", "()I"⟩ ⟨"JesterUnionModel", "sign", "()I"⟩ ∈ gw := gp5 (q := (⟨"JesterUnionModel", "sign", "()I"⟩, 18)) (List.mem_of_getElem? (i := 2) (by decide +kernel))
theorem s5_3 : Cond.selects "JesterUnionModel" ⟨"JesterUnionModel", "digits", "(I)I"⟩ ⟨"JesterUnionModel", "digits", "(I)I"⟩ ∈ gw := gp5 (q := (⟨"JesterUnionModel", "digits", "(I)I"⟩, 18)) (List.mem_of_getElem? (i := 3) (by decide +kernel))
theorem s5_4 : Cond.selects "JesterUnionModel" ⟨"JesterUnionModel", "behind", "(II)I"⟩ ⟨"JesterUnionModel", "behind", "(II)I"⟩ ∈ gw := gp5 (q := (⟨"JesterUnionModel", "behind", "(II)I"⟩, 18)) (List.mem_of_getElem? (i := 4) (by decide +kernel))
theorem s5_5 : Cond.selects "JesterUnionModel" ⟨"JesterUnionModel", "mark", "(I)V"⟩ ⟨"JesterUnionModel", "mark", "(I)V"⟩ ∈ gw := gp5 (q := (⟨"JesterUnionModel", "mark", "(I)V"⟩, 18)) (List.mem_of_getElem? (i := 5) (by decide +kernel))
theorem s5_6 : Cond.selects "JesterUnionModel" ⟨"JesterUnionModel", "plus", "()I"⟩ ⟨"JesterUnionModel", "plus", "()I"⟩ ∈ gw := gp5 (q := (⟨"JesterUnionModel", "plus", "()I"⟩, 18)) (List.mem_of_getElem? (i := 6) (by decide +kernel))
theorem s5_7 : Cond.selects "JesterUnionModel" ⟨"JesterUnionModel", "does", "(IIIII)I"⟩ ⟨"JesterUnionModel", "does", "(IIIII)I"⟩ ∈ gw := gp5 (q := (⟨"JesterUnionModel", "does", "(IIIII)I"⟩, 18)) (List.mem_of_getElem? (i := 7) (by decide +kernel))
theorem s5_8 : Cond.selects "JesterUnionModel" ⟨"JesterUnionModel", "writesNumber", "(I)V"⟩ ⟨"JesterUnionModel", "writesNumber", "(I)V"⟩ ∈ gw := gp5 (q := (⟨"JesterUnionModel", "writesNumber", "(I)V"⟩, 18)) (List.mem_of_getElem? (i := 8) (by decide +kernel))
theorem s5_9 : Cond.selects "JesterUnionModel" ⟨"JesterUnionModel", "writes", "(I)V"⟩ ⟨"JesterUnionModel", "writes", "(I)V"⟩ ∈ gw := gp5 (q := (⟨"JesterUnionModel", "writes", "(I)V"⟩, 18)) (List.mem_of_getElem? (i := 9) (by decide +kernel))
def nl : List (String × Nat × MethodName × String) := [("JesterUnion", 9, ⟨"JesterUnion$Court", "<init>", "()V"⟩, "JesterUnion"), ("JesterUnion$Court", 11, ⟨"JesterUnion$Fools", "<init>", "()V"⟩, "JesterUnion"), ("JesterUnion$Court", 20, ⟨"JesterUnion$Jokes", "<init>", "()V"⟩, "JesterUnion"), ("JesterUnion$Court", 27, ⟨"JesterUnion$Bookings", "<init>", "()V"⟩, "JesterUnion"), ("JesterUnion$History", 24, ⟨"JesterUnion$Court", "<init>", "()V"⟩, "JesterUnion"), ("JesterUnion", 34, ⟨"JesterUnion$OrderText", "<init>", "()V"⟩, "JesterUnion"), ("JesterUnion$Fools", 34, ⟨"JesterUnion", "copy", "([I[I)V"⟩, "JesterUnion"), ("JesterUnion$Jokes", 28, ⟨"JesterUnion", "copy", "([I[I)V"⟩, "JesterUnion"), ("JesterUnion$Bookings", 28, ⟨"JesterUnion", "copy", "([I[I)V"⟩, "JesterUnion"), ("JesterUnion$Court", 65, ⟨"JesterUnion", "copy", "([I[I)V"⟩, "JesterUnion")]
end
section
/-! V: a walk over a heap that is written as a function of addresses; every row is one row of the kit, said once for all methods -/
abbrev AH : Type := Nat → Option va_E
def px_P (D : va_G) (bs n : Nat) (h : AH) (H : Heap) : Prop := H.size = n ∧ bs ≤ n ∧ ∀ (a : Nat) (e : va_E), h a = some e → bs ≤ a ∧ va_at D vwCl (a, e) H
theorem px_P.one {D : va_G} {bs n : Nat} {h : AH} {H : Heap} {a : Nat} {e : va_E} (hP : px_P D bs n h H) (he : h a = some e) : va_P D vwCl [(a, e)] H := by
  intro k q hk
  cases k with
  | zero => cases hk; exact (hP.2.2 a e he).2
  | succ k => simp at hk
theorem px_P.two {D : va_G} {bs n : Nat} {h : AH} {H : Heap} {a b : Nat} {e f : va_E} (hP : px_P D bs n h H) (he : h a = some e) (hf : h b = some f) : va_P D vwCl [(a, e), (b, f)] H := by
  intro k q hk
  cases k with
  | zero => cases hk; exact (hP.2.2 a e he).2
  | succ k =>
    cases k with
    | zero => cases hk; exact (hP.2.2 b f hf).2
    | succ k => simp at hk
theorem px_P.set {D : va_G} {bs n : Nat} {h : AH} {H H1 : Heap} {a : Nat} {e0 e : va_E} (hP : px_P D bs n h H) (he : h a = some e0) (hq : va_at D vwCl (a, e) H1) (hz : H1.size = H.size) (oq : ∀ q : Nat, q ≠ a → H1[q]? = H[q]?) : px_P D bs n (va_up h a (some e)) H1 := by
  refine ⟨hz.trans hP.1, hP.2.1, fun b e' hb => ?_⟩
  unfold va_up at hb
  by_cases hba : b = a
  · rw [if_pos hba] at hb
    cases hb
    subst hba
    exact ⟨(hP.2.2 _ _ he).1, hq⟩
  · rw [if_neg hba] at hb
    obtain ⟨g1, g2⟩ := hP.2.2 _ _ hb
    exact ⟨g1, g2.kept (oq b hba)⟩
theorem px_P.push {D : va_G} {bs n : Nat} {h : AH} {H H1 : Heap} {e : va_E} (hP : px_P D bs n h H) (hq : va_at D vwCl (n, e) H1) (hz : H1.size = n + 1) (oq : ∀ q : Nat, q < n → H1[q]? = H[q]?) : px_P D bs (n + 1) (va_up h n (some e)) H1 := by
  refine ⟨hz, Nat.le_succ_of_le hP.2.1, fun b e' hb => ?_⟩
  unfold va_up at hb
  by_cases hba : b = n
  · rw [if_pos hba] at hb
    cases hb
    subst hba
    exact ⟨hP.2.1, hq⟩
  · rw [if_neg hba] at hb
    obtain ⟨g1, g2⟩ := hP.2.2 _ _ hb
    have hl : b < H.size := g2.lt
    exact ⟨g1, g2.kept (oq b (by rw [← hP.1]; exact hl))⟩
/-- the givens of the start that no call changes: class and array numbers, the script, statics, tables, String constants -/
abbrev vG : Type := va_G × (Nat → ClassId) × (Nat → Nat → Nat) × Nat × (Nat → Int32)
abbrev gD (G : vG) : va_G := G.1
abbrev gC (G : vG) : Nat → ClassId := G.2.1
abbrev gA (G : vG) : Nat → Nat → Nat := G.2.2.1
abbrev gb (G : vG) : Nat := G.2.2.2.1
abbrev gx (G : vG) : Nat → Int32 := G.2.2.2.2
abbrev gT (G : vG) : List (ClassId × FieldType) := [(gC G 0, .int), (gC G 1, .char), (gC G 2, .byte), (gC G 3, .object RX1)]
abbrev gU (G : vG) : Nat → Prop := fun q => gb G ≤ q
def st_ix : List Nat := [66, 68, 70, 72, 74, 76, 78, 80, 82, 84]
def st_tx : List String := ["f1", "j1", "p1:2*2", "b1:2@1=2", "n", "i1", "a1", "x1?", "w2", ""]
def st_len : List Nat := [2, 2, 6, 8, 1, 2, 2, 3, 2, 0]
def st_byt : List (List Int32) := [[102, 49], [106, 49], [112, 49, 58, 50, 42, 50], [98, 49, 58, 50, 64, 49, 61, 50], [110], [105, 49], [97, 49], [120, 49, 63], [119, 50], []]
def dg_one (j : Nat) : Value := .int (nI (48 + j % 10))
def dg_ten (j : Nat) : Value := .int (nI (48 + j / 10))
def cx (G : vG) (s : State) (H : Heap) : Prop :=
  va_K (gD G) vwCl (gT G) s ∧ va_X (gA G 2 2) (gA G 2 3) (gx G) s H ∧ gA G 2 2 < gb G ∧
  va_Z "java/lang/String" "COMPACT_STRINGS" "Z" (.int 1) (gU G) s H ∧ va_Zq "jdk/internal/util/Preconditions" "SIOOBE_FORMATTER" "Ljava/util/function/BiFunction;" (gU G) s H ∧
  va_Z "java/lang/Integer" "DigitOnes" "[B" (.ref (gA G 2 0)) (gU G) s H ∧ va_T .byte (gA G 2 0) 100 dg_one (gU G) s H ∧
  va_Z "java/lang/Integer" "DigitTens" "[B" (.ref (gA G 2 1)) (gU G) s H ∧ va_T .byte (gA G 2 1) 100 dg_ten (gU G) s H ∧
  (∀ q ∈ nl, va_Nw (.methodLinkNest q.1 q.2.1 q.2.2.1 q.2.2.2) s) ∧ vk_S 10 st_len st_byt (gA G 0) (gA G 1) (gU G) s H ∧ (∀ i : Nat, i < 10 → vk_R RX5 (st_ix.getD i 0) (st_tx.getD i "") (gA G 0 i) s) ∧ va_AO RX1 s
theorem cx.al {G : vG} {u U : State} {H : Heap} (hv : u.vm.Alike U.vm) (hr : ∀ (k a : Nat) (tx : String), vk_R RX5 k tx a u → vk_R RX5 k tx a U) (ho : va_AO RX1 u → va_AO RX1 U) (hn : ∀ (a : String) (i : Nat) (x : MethodName) (h : String), va_Nw (.methodLinkNest a i x h) u → va_Nw (.methodLinkNest a i x h) U) (h : cx G u H) : cx G U H := by
  obtain ⟨h1, h2, h3, h4, h5, h6, h7, h8, h9, h13, h10, h11, h12⟩ := h
  exact ⟨va_K.moved hv h1, va_X.moved hv h2, h3, va_Z.moved hv h4, va_Zq.moved hv h5, va_Z.moved hv h6, va_T.moved hv h7, va_Z.moved hv h8, va_T.moved hv h9, fun q hq => hn _ _ _ _ (h13 q hq), vk_S.moved hv h10, fun i hi => hr _ _ _ (h11 i hi), ho h12⟩
theorem cx.warm {G : vG} {s U : State} {H : Heap} (hW : s.WarmedH U.vm) (h : cx G s H) : cx G U H := h.al hW.alike (fun _ _ _ q => vk_R.warm hW q) (fun q => va_AO.moved hW.alike q) (fun _ _ _ _ q => va_Nw.warmM hW q)
theorem cx.same {G : vG} {u U : State} {H : Heap} (hv : U.vm = u.vm) (h : cx G u H) : cx G U H := h.al (by rw [hv]; exact Vm.Alike.refl _) (fun _ _ _ q => vk_R.same hv q) (fun q => va_AO.moved (by rw [hv]; exact Vm.Alike.refl _) q) (fun _ _ _ _ q => va_Nw.same rfl hv.symm q)
theorem cx.kept {G : vG} {s : State} {H H1 : Heap} (h : cx G s H) (hq : ∀ a : Nat, a < H.size → ¬ gU G a → H1[a]? = H[a]?) : cx G s H1 := by
  obtain ⟨h1, h2, h3, h4, h5, h6, h7, h8, h9, h13, h10, h11⟩ := h
  have hb : H1[gA G 2 2]? = H[gA G 2 2]? := by
    obtain ⟨scr, e1, -⟩ := h2
    exact hq _ (Array.getElem?_eq_some_iff.mp e1).1 (Nat.not_le.mpr h3)
  exact ⟨h1, h2.kept hb, h3, h4.kept hq, h5.kept hq, h6.kept hq, h7.kept hq, h8.kept hq, h9.kept hq, h13, h10.kept hq, h11⟩
/-- a method: name, code, locals, answer's type, frames and words of its calls -/
abbrev vM : Type := MethodName × ByteArray × Nat × Option FieldType × Nat × Nat
def mW (M : vM) : List Cond := Cond.code M.1 M.2.1 M.2.2.1 M.2.2.2.1 :: gw
/-- locals: the whole frame, unset ones as none -/
def lok (lsA : Array Slot) (nL : Nat) (ls : List (Option Value)) : Prop := lsA.size = nL ∧ lv_wf lsA ∧ ∀ (i : Nat) (v : Value), ls[i]? = some (some v) → lsA[i]? = some (.val v)
def lprs (ls : List (Option Value)) : List (Nat × Value) := (List.range ls.length).filterMap (fun i => match ls[i]? with | some (some v) => some (i, v) | _ => none)
theorem lprs_mem {ls : List (Option Value)} {i : Nat} {v : Value} : (i, v) ∈ lprs ls ↔ ls[i]? = some (some v) := by
  unfold lprs
  constructor
  · intro h
    obtain ⟨j, hj, e⟩ := List.mem_filterMap.mp h
    split at e
    · rename_i w hw
      cases e
      exact hw
    · cases e
  · intro h
    refine List.mem_filterMap.mpr ⟨i, List.mem_range.mpr (List.getElem?_eq_some_iff.mp h).1, ?_⟩
    rw [h]
theorem lok.has {lsA : Array Slot} {nL : Nat} {ls : List (Option Value)} (h : lok lsA nL ls) : lv_has lsA nL (lprs ls) := ⟨h.1, h.2.1, fun q hq => h.2.2 q.1 q.2 (lprs_mem.mp hq)⟩
def l1 (ls : List (Option Value)) : Bool := ls.all (fun o => match o with | some v => v.category == 1 | none => true)
theorem l1_at {ls : List (Option Value)} (h : l1 ls = true) {i : Nat} {v : Value} (hv : ls[i]? = some (some v)) : ¬ v.category = 2 := by
  have := List.all_eq_true.mp h (some v) (List.mem_of_getElem? hv)
  simp only [beq_iff_eq] at this
  omega
theorem lok.put {lsB : Array Slot} {nL : Nat} {ls : List (Option Value)} {i : Nat} {v : Value} (h1 : l1 ls = true) (hB : lv_has lsB nL ((i, v) :: (lprs ls).filter (fun q => !(q.1 == i) && !(q.1 + 1 == i && q.2.category == 2)))) : lok lsB nL (ls.set i (some v)) := by
  refine ⟨hB.1, hB.2.1, fun j w hj => ?_⟩
  by_cases hji : j = i
  · subst hji
    have hl : j < ls.length := by
      have := (List.getElem?_eq_some_iff.mp hj).1
      simpa using this
    rw [List.getElem?_set_self hl] at hj
    cases hj
    exact hB.2.2 _ List.mem_cons_self
  · rw [List.getElem?_set_ne (Ne.symm hji)] at hj
    refine hB.2.2 (j, w) (List.mem_cons_of_mem _ (List.mem_filter.mpr ⟨lprs_mem.mpr hj, ?_⟩))
    have hc := l1_at h1 hj
    simp [hji, hc]
theorem lok.entry {vs : List Value} {n : Nat} (h : (lg_sl vs).length ≤ n) (h1 : l1 (vs.map some) = true) : lok ((lg_sl vs ++ List.replicate (n - (lg_sl vs).length) Slot.unset).toArray) n (vs.map some ++ List.replicate (n - vs.length) none) := by
  obtain ⟨a1, a2, a3⟩ := lv_entry vs h
  refine ⟨a1, a2, fun i v hv => ?_⟩
  by_cases hi : i < vs.length
  · rw [List.getElem?_append_left (by simpa using hi)] at hv
    refine a3 (i, v) ?_
    have key : ∀ (ws : List Value) (k : Nat), l1 (ws.map some) = true → ∀ (j : Nat) (x : Value), ws[j]? = some x → (k + j, x) ∈ lv_args k ws := by
      intro ws
      induction ws with
      | nil => intro k _ j x hx; simp at hx
      | cons y ys ih =>
        intro k hl j x hx
        have hy : ¬ y.category = 2 := l1_at (ls := (y :: ys).map some) hl (i := 0) rfl
        have hl2 : l1 (ys.map some) = true := by
          simp only [l1, List.map_cons, List.all_cons, Bool.and_eq_true] at hl
          exact hl.2
        cases j with
        | zero => cases hx; exact List.mem_cons_self
        | succ j =>
          refine List.mem_cons_of_mem _ ?_
          rw [if_neg hy]
          have := ih (k + 1) hl2 j x hx
          rwa [show k + 1 + j = k + (j + 1) by omega] at this
    have := key vs 0 h1 i v (by simpa using hv)
    simpa using this
  · rw [List.getElem?_append_right (by simpa using hi)] at hv
    have := List.eq_of_mem_replicate (List.mem_of_getElem? hv)
    cases this
abbrev vFin : Type := List Frame → Array Value → State → State → Prop
def V (l : Launch) (G : vG) (M : vM) (rc rs : Nat) (Fz : vFin) (pc : Nat) (ls : List (Option Value)) (st : List Value) (n : Nat) (h : AH) (cells slots : Nat) : Prop :=
  ∀ (p : Program) (e : Env) (s : State) (m : MethodId) (args : Array Value) (below : List Frame) (meth : Method) (c : Code) (H : Heap) (locs : List Loc) (lsA : Array Slot) (d0 : Drawn),
    p.tables.exec = Jvm.exec → c.code = M.2.1 → meth.sig.returnType = M.2.2.2.1 → c.maxLocals = M.2.2.1 → (∀ w ∈ gw, w.before args s = true) → s.vm.findClass M.1.cls = some m.cls → meth.locks = false → meth.name = M.1.name → s.drawn.sameBut d0 lw_cs →
    cx G s s.heap → va_S (gU G) s.heap H locs → gb G ≤ s.heap.size → px_P (gD G) (gb G) n h H → lok lsA M.2.2.1 ls →
    W p l e ({ frames := M.2.2.2.2.1, cells := rc, slots := rs, locals := M.2.2.2.2.2 } : Room) (s.setDrawn d0) m args below meth c H locs cells slots (Fz below args s) (F0 m pc lsA st)
def qcM (G : vG) (Q : Option Value → Nat → AH → Prop) : Array Value → State → Outcome → State → Prop := fun _ st o t => (∃ (r : Option Value) (n : Nat) (h : AH), o = .returned r ∧ Q r n h ∧ px_P (gD G) (gb G) n h t.heap) ∧ va_F (gU G) st t
def finM (G : vG) (Q : Option Value → Nat → AH → Prop) (mc ms : Nat) : vFin := fun below args s => MQD lw_cs below (qcM G Q) args s mc ms (gU G)
def pcM (G : vG) (As : List Value) (n : Nat) (h : AH) : Array Value → State → Prop := va_Pc As (fun U => cx G U U.heap ∧ gb G ≤ U.heap.size ∧ px_P (gD G) (gb G) n h U.heap)
/-- a method's contract: from this heap, with these arguments, it returns, and Q holds of answer and heap -/
def Mt (l : Launch) (G : vG) (M : vM) (As : List Value) (n : Nat) (h : AH) (mc ms : Nat) (Q : Option Value → Nat → AH → Prop) : Prop :=
  MetD lw_cs l M.1 (mW M) ({ frames := M.2.2.2.2.1, cells := mc, slots := ms, locals := M.2.2.2.2.2 } : Room) (pcM G As n h) (qcM G Q) mc ms (gU G)
theorem pcM.blind {G : vG} {As : List Value} {n : Nat} {h : AH} : FrameBlind (pcM G As n h) := fun _ U g mk q => ⟨q.1, cx.same (u := U) rfl q.2.1, q.2.2.1, q.2.2.2⟩
theorem Mt.of {l : Launch} {G : vG} {M : vM} {As : List Value} {n : Nat} {h : AH} {mc ms : Nat} {Q : Option Value → Nat → AH → Prop} (hy : plainName M.1.cls = true) (hl : (lg_sl As).length ≤ M.2.2.1) (h1 : l1 (As.map some) = true)
    (k : V l G M mc ms (finM G Q mc ms) 0 (As.map some ++ List.replicate (M.2.2.1 - As.length) none) [] n h 0 0) : Mt l G M As n h mc ms Q := by
  refine MetD.ofW (cc := M.2.1) (maxL := M.2.2.1) (ret := M.2.2.2.1) hy rfl ?_
  intro p e s m args below meth c s₁ B hml hv hd0
  obtain ⟨rfl, hC, hb, hP⟩ := hv
  rw [lg_entry_eq]
  exact k p e s m _ below meth c s.heap [] _ s.drawn B.exec B.bytes B.returns hml (fun w hw => atoms_spec (ws := mW M) B.pre w (List.mem_cons_of_mem _ hw)) (findClass_of_methodNamed B.named) B.notSynchronized (name_of_methodNamed B.named B.method).1 hd0 hC va_S.rf hb hP (lok.entry hl h1)
theorem gw_good : ∀ w ∈ gw, (w.onTables && w.keeps) = true ∨ ∃ ty, w = .arrayClass ty := by
  have h : gw.all goodWord = true := by decide +kernel
  exact fun w hw => good_of_word (List.all_eq_true.mp h w hw)
theorem gw_in {ws : List Cond} (h : ∀ w ∈ ws, w ∈ gw) : GoodIn gw ws := fun w hw => ⟨h w hw, gw_good w (h w hw)⟩
theorem gw_mW {M : vM} (h : Cond.code M.1 M.2.1 M.2.2.1 M.2.2.2.1 ∈ gw) : ∀ w ∈ mW M, w ∈ gw := fun w hw => (List.mem_cons.mp hw).elim (fun q => by rw [q]; exact h) id
theorem px_callD {p : Program} {l : Launch} {e : Env} {R : Room} {s : State} {m : MethodId} {args : Array Value} {below : List Frame} {meth : Method} {c : Code} {H : Heap} {locs : List Loc} {cells slots : Nat} {Q : State → Prop} {pc : Nat} {ls : Array Slot} {rest st0 : List Value} {a : Array Value} {mc ms : Nat} {G : vG} {d0 : Drawn} {Q2 : Option Value → Nat → AH → Prop} (hd0 : s.drawn.sameBut d0 lw_cs)
    (hr : va_RunD lw_cs p l e R (s.setDrawn d0) m args below meth c H locs cells slots mc ms (F0 m pc ls st0) rest (qcM G Q2 a) (gU G)) (hS : va_S (gU G) s.heap H locs)
    (kk : ∀ (r : Option Value) (n' : Nat) (h' : AH) (H1 : Heap) (locs1 : List Loc) (d' : Drawn), s.drawn.sameBut d' lw_cs → Q2 r n' h' → px_P (gD G) (gb G) n' h' H1 → va_S (gU G) s.heap H1 locs1 → W p l e R (s.setDrawn d') m args below meth c H1 locs1 (cells + mc) (slots + ms) Q (F0 m (pc + 3) ls (r.toList ++ rest))) : W p l e R (s.setDrawn d0) m args below meth c H locs cells slots Q (F0 m pc ls st0) := by
  intro T hT X
  obtain ⟨v, st₀, t, T', L, d', hd', h0, X', hL, e1, e2, ⟨⟨r, n', h', hv, hq, hp⟩, hz, hk⟩, st⟩ := hr T hT X
  cases hv
  rw [h0] at hz hk
  obtain ⟨t2, a1, b1⟩ := kk _ n' h' T'.heap (locs ++ L) d' (hd0.trans hd') hq (by rw [e1]; exact hp)
    ⟨Nat.le_trans hS.1 (by rw [e1]; exact hz), fun q h1 h2 => by rw [e1, hk q (Nat.lt_of_lt_of_le h1 hS.1) h2]; exact hS.2.1 q h1 h2, fun q hq => by
      rcases List.mem_append.mp hq with h | h
      · exact hS.2.2 q h
      · exact hL q h⟩ T' rfl X'
  exact ⟨t2, st t2 a1, b1⟩
theorem v_iconst {l : Launch} {G : vG} {M : vM} {rc rs : Nat} {Fz : vFin} {pc : Nat} {ls : List (Option Value)} {st : List Value} {n : Nat} {h : AH} {cells slots : Nat} {k : Int} {v : Int32} (hd : decode M.2.1 pc = .ok (.iconst k, 1)) (hv : Int32.ofInt k = v) (kk : V l G M rc rs Fz (pc + 1) ls (.int v :: st) n h cells slots) : V l G M rc rs Fz pc ls (st) n h cells slots := by
  intro p e s m args below meth c H locs lsA d0 hx hb hr hml hts hown hlk hnm hd0 hC hS hbs hP hl
  exact lv_iconst hx hb hd hv (kk p e s m args below meth c H locs lsA d0 hx hb hr hml hts hown hlk hnm hd0 hC hS hbs hP hl)
theorem v_bipush {l : Launch} {G : vG} {M : vM} {rc rs : Nat} {Fz : vFin} {pc : Nat} {ls : List (Option Value)} {st : List Value} {n : Nat} {h : AH} {cells slots : Nat} {k : Int} {v : Int32} (hd : decode M.2.1 pc = .ok (.bipush k, 2)) (hv : (Int8.ofInt k).toInt32 = v) (kk : V l G M rc rs Fz (pc + 2) ls (.int v :: st) n h cells slots) : V l G M rc rs Fz pc ls (st) n h cells slots := by
  intro p e s m args below meth c H locs lsA d0 hx hb hr hml hts hown hlk hnm hd0 hC hS hbs hP hl
  exact lv_bipush hx hb hd hv (kk p e s m args below meth c H locs lsA d0 hx hb hr hml hts hown hlk hnm hd0 hC hS hbs hP hl)
theorem v_sipush {l : Launch} {G : vG} {M : vM} {rc rs : Nat} {Fz : vFin} {pc : Nat} {ls : List (Option Value)} {st : List Value} {n : Nat} {h : AH} {cells slots : Nat} {k : Int} {v : Int32} (hd : decode M.2.1 pc = .ok (.sipush k, 3)) (hv : (Int16.ofInt k).toInt32 = v) (kk : V l G M rc rs Fz (pc + 3) ls (.int v :: st) n h cells slots) : V l G M rc rs Fz pc ls (st) n h cells slots := by
  intro p e s m args below meth c H locs lsA d0 hx hb hr hml hts hown hlk hnm hd0 hC hS hbs hP hl
  exact lv_sipush hx hb hd hv (kk p e s m args below meth c H locs lsA d0 hx hb hr hml hts hown hlk hnm hd0 hC hS hbs hP hl)
theorem v_iload_n {l : Launch} {G : vG} {M : vM} {rc rs : Nat} {Fz : vFin} {pc : Nat} {ls : List (Option Value)} {st : List Value} {n : Nat} {h : AH} {cells slots : Nat} {k : Fin 4} {x : Int32} (hd : decode M.2.1 pc = .ok (.iload_n k, 1)) (hv : ls[(k : Nat)]? = some (some (.int x))) (kk : V l G M rc rs Fz (pc + 1) ls (.int x :: st) n h cells slots) : V l G M rc rs Fz pc ls (st) n h cells slots := by
  intro p e s m args below meth c H locs lsA d0 hx hb hr hml hts hown hlk hnm hd0 hC hS hbs hP hl
  exact lv_iload_n hx hb hd rfl (hl.2.2 _ _ hv) (kk p e s m args below meth c H locs lsA d0 hx hb hr hml hts hown hlk hnm hd0 hC hS hbs hP hl)
theorem v_iload {l : Launch} {G : vG} {M : vM} {rc rs : Nat} {Fz : vFin} {pc : Nat} {ls : List (Option Value)} {st : List Value} {n : Nat} {h : AH} {cells slots : Nat} {k : Nat} {x : Int32} (hd : decode M.2.1 pc = .ok (.iload k, 2)) (hv : ls[k]? = some (some (.int x))) (kk : V l G M rc rs Fz (pc + 2) ls (.int x :: st) n h cells slots) : V l G M rc rs Fz pc ls (st) n h cells slots := by
  intro p e s m args below meth c H locs lsA d0 hx hb hr hml hts hown hlk hnm hd0 hC hS hbs hP hl
  exact lv_iload hx hb hd (hl.2.2 _ _ hv) (kk p e s m args below meth c H locs lsA d0 hx hb hr hml hts hown hlk hnm hd0 hC hS hbs hP hl)
theorem v_aload_n {l : Launch} {G : vG} {M : vM} {rc rs : Nat} {Fz : vFin} {pc : Nat} {ls : List (Option Value)} {st : List Value} {n : Nat} {h : AH} {cells slots : Nat} {k : Fin 4} {x : Nat} (hd : decode M.2.1 pc = .ok (.aload_n k, 1)) (hv : ls[(k : Nat)]? = some (some (.ref x))) (kk : V l G M rc rs Fz (pc + 1) ls (.ref x :: st) n h cells slots) : V l G M rc rs Fz pc ls (st) n h cells slots := by
  intro p e s m args below meth c H locs lsA d0 hx hb hr hml hts hown hlk hnm hd0 hC hS hbs hP hl
  exact lv_aload_n hx hb hd rfl (hl.2.2 _ _ hv) (kk p e s m args below meth c H locs lsA d0 hx hb hr hml hts hown hlk hnm hd0 hC hS hbs hP hl)
theorem v_aload {l : Launch} {G : vG} {M : vM} {rc rs : Nat} {Fz : vFin} {pc : Nat} {ls : List (Option Value)} {st : List Value} {n : Nat} {h : AH} {cells slots : Nat} {k : Nat} {x : Nat} (hd : decode M.2.1 pc = .ok (.aload k, 2)) (hv : ls[k]? = some (some (.ref x))) (kk : V l G M rc rs Fz (pc + 2) ls (.ref x :: st) n h cells slots) : V l G M rc rs Fz pc ls (st) n h cells slots := by
  intro p e s m args below meth c H locs lsA d0 hx hb hr hml hts hown hlk hnm hd0 hC hS hbs hP hl
  exact lv_aload hx hb hd (hl.2.2 _ _ hv) (kk p e s m args below meth c H locs lsA d0 hx hb hr hml hts hown hlk hnm hd0 hC hS hbs hP hl)
theorem v_dload {l : Launch} {G : vG} {M : vM} {rc rs : Nat} {Fz : vFin} {pc : Nat} {ls : List (Option Value)} {st : List Value} {n : Nat} {h : AH} {cells slots : Nat} {k : Nat} {x : UInt64} (hd : decode M.2.1 pc = .ok (.dload k, 2)) (hv : ls[k]? = some (some (.double x))) (kk : V l G M rc rs Fz (pc + 2) ls (.double x :: st) n h cells slots) : V l G M rc rs Fz pc ls (st) n h cells slots := by
  intro p e s m args below meth c H locs lsA d0 hx hb hr hml hts hown hlk hnm hd0 hC hS hbs hP hl
  exact lv_dload hx hb hd (hl.2.2 _ _ hv) (kk p e s m args below meth c H locs lsA d0 hx hb hr hml hts hown hlk hnm hd0 hC hS hbs hP hl)
theorem v_istore_n {l : Launch} {G : vG} {M : vM} {rc rs : Nat} {Fz : vFin} {pc : Nat} {ls : List (Option Value)} {st : List Value} {n : Nat} {h : AH} {cells slots : Nat} {k : Fin 4} {x : Int32} (hd : decode M.2.1 pc = .ok (.istore_n k, 1)) (h1 : l1 ls = true) (hn : (k : Nat) < M.2.2.1) (kk : V l G M rc rs Fz (pc + 1) (ls.set (k : Nat) (some (.int x))) (st) n h cells slots) : V l G M rc rs Fz pc ls (.int x :: st) n h cells slots := by
  intro p e s m args below meth c H locs lsA d0 hx hb hr hml hts hown hlk hnm hd0 hC hS hbs hP hl
  exact lv_istore_n hx hb hd rfl hl.has hn rfl (fun ls2 hB => kk p e s m args below meth c H locs _ d0 hx hb hr hml hts hown hlk hnm hd0 hC hS hbs hP (lok.put h1 hB))
theorem v_istore {l : Launch} {G : vG} {M : vM} {rc rs : Nat} {Fz : vFin} {pc : Nat} {ls : List (Option Value)} {st : List Value} {n : Nat} {h : AH} {cells slots : Nat} {k : Nat} {x : Int32} (hd : decode M.2.1 pc = .ok (.istore k, 2)) (h1 : l1 ls = true) (hn : k < M.2.2.1) (kk : V l G M rc rs Fz (pc + 2) (ls.set k (some (.int x))) (st) n h cells slots) : V l G M rc rs Fz pc ls (.int x :: st) n h cells slots := by
  intro p e s m args below meth c H locs lsA d0 hx hb hr hml hts hown hlk hnm hd0 hC hS hbs hP hl
  exact lv_istore hx hb hd hl.has hn rfl (fun ls2 hB => kk p e s m args below meth c H locs _ d0 hx hb hr hml hts hown hlk hnm hd0 hC hS hbs hP (lok.put h1 hB))
theorem v_astore_n {l : Launch} {G : vG} {M : vM} {rc rs : Nat} {Fz : vFin} {pc : Nat} {ls : List (Option Value)} {st : List Value} {n : Nat} {h : AH} {cells slots : Nat} {k : Fin 4} {x : Nat} (hd : decode M.2.1 pc = .ok (.astore_n k, 1)) (h1 : l1 ls = true) (hn : (k : Nat) < M.2.2.1) (kk : V l G M rc rs Fz (pc + 1) (ls.set (k : Nat) (some (.ref x))) (st) n h cells slots) : V l G M rc rs Fz pc ls (.ref x :: st) n h cells slots := by
  intro p e s m args below meth c H locs lsA d0 hx hb hr hml hts hown hlk hnm hd0 hC hS hbs hP hl
  exact lv_astore_n hx hb hd rfl hl.has hn rfl (fun ls2 hB => kk p e s m args below meth c H locs _ d0 hx hb hr hml hts hown hlk hnm hd0 hC hS hbs hP (lok.put h1 hB))
theorem v_astore {l : Launch} {G : vG} {M : vM} {rc rs : Nat} {Fz : vFin} {pc : Nat} {ls : List (Option Value)} {st : List Value} {n : Nat} {h : AH} {cells slots : Nat} {k : Nat} {x : Nat} (hd : decode M.2.1 pc = .ok (.astore k, 2)) (h1 : l1 ls = true) (hn : k < M.2.2.1) (kk : V l G M rc rs Fz (pc + 2) (ls.set k (some (.ref x))) (st) n h cells slots) : V l G M rc rs Fz pc ls (.ref x :: st) n h cells slots := by
  intro p e s m args below meth c H locs lsA d0 hx hb hr hml hts hown hlk hnm hd0 hC hS hbs hP hl
  exact lv_astore hx hb hd hl.has hn rfl (fun ls2 hB => kk p e s m args below meth c H locs _ d0 hx hb hr hml hts hown hlk hnm hd0 hC hS hbs hP (lok.put h1 hB))
theorem v_iinc {l : Launch} {G : vG} {M : vM} {rc rs : Nat} {Fz : vFin} {pc : Nat} {ls : List (Option Value)} {st : List Value} {n : Nat} {h : AH} {cells slots : Nat} {i : Nat} {z : Int} {x : Int32} (hd : decode M.2.1 pc = .ok (.iinc i z, 3)) (hv : ls[i]? = some (some (.int x))) (h1 : l1 ls = true) (hn : i < M.2.2.1) (kk : V l G M rc rs Fz (pc + 3) (ls.set i (some (.int (x + Int32.ofInt z)))) (st) n h cells slots) : V l G M rc rs Fz pc ls (st) n h cells slots := by
  intro p e s m args below meth c H locs lsA d0 hx hb hr hml hts hown hlk hnm hd0 hC hS hbs hP hl
  obtain ⟨k, hk⟩ := List.getElem?_of_mem (lprs_mem.mpr hv)
  exact lv_iinc hx hb hd hl.has hk rfl hn rfl (fun ls2 hB => kk p e s m args below meth c H locs _ d0 hx hb hr hml hts hown hlk hnm hd0 hC hS hbs hP (lok.put h1 hB))
theorem v_iadd {l : Launch} {G : vG} {M : vM} {rc rs : Nat} {Fz : vFin} {pc : Nat} {ls : List (Option Value)} {st : List Value} {n : Nat} {h : AH} {cells slots : Nat} {x y : Int32} (hd : decode M.2.1 pc = .ok (.iadd, 1))  (kk : V l G M rc rs Fz (pc + 1) ls (.int (x + y) :: st) n h cells slots) : V l G M rc rs Fz pc ls (.int y :: .int x :: st) n h cells slots := by
  intro p e s m args below meth c H locs lsA d0 hx hb hr hml hts hown hlk hnm hd0 hC hS hbs hP hl
  exact lv_iadd hx hb hd  (kk p e s m args below meth c H locs lsA d0 hx hb hr hml hts hown hlk hnm hd0 hC hS hbs hP hl)
theorem v_isub {l : Launch} {G : vG} {M : vM} {rc rs : Nat} {Fz : vFin} {pc : Nat} {ls : List (Option Value)} {st : List Value} {n : Nat} {h : AH} {cells slots : Nat} {x y : Int32} (hd : decode M.2.1 pc = .ok (.isub, 1))  (kk : V l G M rc rs Fz (pc + 1) ls (.int (x - y) :: st) n h cells slots) : V l G M rc rs Fz pc ls (.int y :: .int x :: st) n h cells slots := by
  intro p e s m args below meth c H locs lsA d0 hx hb hr hml hts hown hlk hnm hd0 hC hS hbs hP hl
  exact lv_isub hx hb hd  (kk p e s m args below meth c H locs lsA d0 hx hb hr hml hts hown hlk hnm hd0 hC hS hbs hP hl)
theorem v_imul {l : Launch} {G : vG} {M : vM} {rc rs : Nat} {Fz : vFin} {pc : Nat} {ls : List (Option Value)} {st : List Value} {n : Nat} {h : AH} {cells slots : Nat} {x y : Int32} (hd : decode M.2.1 pc = .ok (.imul, 1))  (kk : V l G M rc rs Fz (pc + 1) ls (.int (x * y) :: st) n h cells slots) : V l G M rc rs Fz pc ls (.int y :: .int x :: st) n h cells slots := by
  intro p e s m args below meth c H locs lsA d0 hx hb hr hml hts hown hlk hnm hd0 hC hS hbs hP hl
  exact lv_imul hx hb hd  (kk p e s m args below meth c H locs lsA d0 hx hb hr hml hts hown hlk hnm hd0 hC hS hbs hP hl)
theorem v_iand {l : Launch} {G : vG} {M : vM} {rc rs : Nat} {Fz : vFin} {pc : Nat} {ls : List (Option Value)} {st : List Value} {n : Nat} {h : AH} {cells slots : Nat} {x y : Int32} (hd : decode M.2.1 pc = .ok (.iand, 1))  (kk : V l G M rc rs Fz (pc + 1) ls (.int (x &&& y) :: st) n h cells slots) : V l G M rc rs Fz pc ls (.int y :: .int x :: st) n h cells slots := by
  intro p e s m args below meth c H locs lsA d0 hx hb hr hml hts hown hlk hnm hd0 hC hS hbs hP hl
  exact lv_iand hx hb hd  (kk p e s m args below meth c H locs lsA d0 hx hb hr hml hts hown hlk hnm hd0 hC hS hbs hP hl)
theorem v_ior {l : Launch} {G : vG} {M : vM} {rc rs : Nat} {Fz : vFin} {pc : Nat} {ls : List (Option Value)} {st : List Value} {n : Nat} {h : AH} {cells slots : Nat} {x y : Int32} (hd : decode M.2.1 pc = .ok (.ior, 1))  (kk : V l G M rc rs Fz (pc + 1) ls (.int (x ||| y) :: st) n h cells slots) : V l G M rc rs Fz pc ls (.int y :: .int x :: st) n h cells slots := by
  intro p e s m args below meth c H locs lsA d0 hx hb hr hml hts hown hlk hnm hd0 hC hS hbs hP hl
  exact lv_ior hx hb hd  (kk p e s m args below meth c H locs lsA d0 hx hb hr hml hts hown hlk hnm hd0 hC hS hbs hP hl)
theorem v_ishl {l : Launch} {G : vG} {M : vM} {rc rs : Nat} {Fz : vFin} {pc : Nat} {ls : List (Option Value)} {st : List Value} {n : Nat} {h : AH} {cells slots : Nat} {x y : Int32} (hd : decode M.2.1 pc = .ok (.ishl, 1))  (kk : V l G M rc rs Fz (pc + 1) ls (.int (x <<< (y &&& 31)) :: st) n h cells slots) : V l G M rc rs Fz pc ls (.int y :: .int x :: st) n h cells slots := by
  intro p e s m args below meth c H locs lsA d0 hx hb hr hml hts hown hlk hnm hd0 hC hS hbs hP hl
  exact lv_ishl hx hb hd  (kk p e s m args below meth c H locs lsA d0 hx hb hr hml hts hown hlk hnm hd0 hC hS hbs hP hl)
theorem v_ishr {l : Launch} {G : vG} {M : vM} {rc rs : Nat} {Fz : vFin} {pc : Nat} {ls : List (Option Value)} {st : List Value} {n : Nat} {h : AH} {cells slots : Nat} {x y : Int32} (hd : decode M.2.1 pc = .ok (.ishr, 1))  (kk : V l G M rc rs Fz (pc + 1) ls (.int (x >>> (y &&& 31)) :: st) n h cells slots) : V l G M rc rs Fz pc ls (.int y :: .int x :: st) n h cells slots := by
  intro p e s m args below meth c H locs lsA d0 hx hb hr hml hts hown hlk hnm hd0 hC hS hbs hP hl
  exact lv_ishr hx hb hd  (kk p e s m args below meth c H locs lsA d0 hx hb hr hml hts hown hlk hnm hd0 hC hS hbs hP hl)
theorem v_idiv {l : Launch} {G : vG} {M : vM} {rc rs : Nat} {Fz : vFin} {pc : Nat} {ls : List (Option Value)} {st : List Value} {n : Nat} {h : AH} {cells slots : Nat} {x y : Int32} (hd : decode M.2.1 pc = .ok (.idiv, 1)) (hy : ¬ y = 0) (kk : V l G M rc rs Fz (pc + 1) ls (.int (x / y) :: st) n h cells slots) : V l G M rc rs Fz pc ls (.int y :: .int x :: st) n h cells slots := by
  intro p e s m args below meth c H locs lsA d0 hx hb hr hml hts hown hlk hnm hd0 hC hS hbs hP hl
  exact lv_idiv hx hb hd hy (kk p e s m args below meth c H locs lsA d0 hx hb hr hml hts hown hlk hnm hd0 hC hS hbs hP hl)
theorem v_irem {l : Launch} {G : vG} {M : vM} {rc rs : Nat} {Fz : vFin} {pc : Nat} {ls : List (Option Value)} {st : List Value} {n : Nat} {h : AH} {cells slots : Nat} {x y : Int32} (hd : decode M.2.1 pc = .ok (.irem, 1)) (hy : ¬ y = 0) (kk : V l G M rc rs Fz (pc + 1) ls (.int (x - x / y * y) :: st) n h cells slots) : V l G M rc rs Fz pc ls (.int y :: .int x :: st) n h cells slots := by
  intro p e s m args below meth c H locs lsA d0 hx hb hr hml hts hown hlk hnm hd0 hC hS hbs hP hl
  exact lv_irem hx hb hd hy (kk p e s m args below meth c H locs lsA d0 hx hb hr hml hts hown hlk hnm hd0 hC hS hbs hP hl)
theorem v_ineg {l : Launch} {G : vG} {M : vM} {rc rs : Nat} {Fz : vFin} {pc : Nat} {ls : List (Option Value)} {st : List Value} {n : Nat} {h : AH} {cells slots : Nat} {x : Int32} (hd : decode M.2.1 pc = .ok (.ineg, 1))  (kk : V l G M rc rs Fz (pc + 1) ls (.int (-x) :: st) n h cells slots) : V l G M rc rs Fz pc ls (.int x :: st) n h cells slots := by
  intro p e s m args below meth c H locs lsA d0 hx hb hr hml hts hown hlk hnm hd0 hC hS hbs hP hl
  exact lv_ineg hx hb hd  (kk p e s m args below meth c H locs lsA d0 hx hb hr hml hts hown hlk hnm hd0 hC hS hbs hP hl)
theorem v_i2c {l : Launch} {G : vG} {M : vM} {rc rs : Nat} {Fz : vFin} {pc : Nat} {ls : List (Option Value)} {st : List Value} {n : Nat} {h : AH} {cells slots : Nat} {x : Int32} (hd : decode M.2.1 pc = .ok (.i2c, 1))  (kk : V l G M rc rs Fz (pc + 1) ls (.int ((x.toUInt32 % 65536).toInt32) :: st) n h cells slots) : V l G M rc rs Fz pc ls (.int x :: st) n h cells slots := by
  intro p e s m args below meth c H locs lsA d0 hx hb hr hml hts hown hlk hnm hd0 hC hS hbs hP hl
  exact lv_i2c hx hb hd rfl (kk p e s m args below meth c H locs lsA d0 hx hb hr hml hts hown hlk hnm hd0 hC hS hbs hP hl)
theorem v_i2b {l : Launch} {G : vG} {M : vM} {rc rs : Nat} {Fz : vFin} {pc : Nat} {ls : List (Option Value)} {st : List Value} {n : Nat} {h : AH} {cells slots : Nat} {x : Int32} (hd : decode M.2.1 pc = .ok (.i2b, 1))  (kk : V l G M rc rs Fz (pc + 1) ls (.int (x.toInt8.toInt32) :: st) n h cells slots) : V l G M rc rs Fz pc ls (.int x :: st) n h cells slots := by
  intro p e s m args below meth c H locs lsA d0 hx hb hr hml hts hown hlk hnm hd0 hC hS hbs hP hl
  exact lv_i2b hx hb hd rfl (kk p e s m args below meth c H locs lsA d0 hx hb hr hml hts hown hlk hnm hd0 hC hS hbs hP hl)
theorem v_i2d {l : Launch} {G : vG} {M : vM} {rc rs : Nat} {Fz : vFin} {pc : Nat} {ls : List (Option Value)} {st : List Value} {n : Nat} {h : AH} {cells slots : Nat} {x : Int32} (hd : decode M.2.1 pc = .ok (.i2d, 1))  (kk : V l G M rc rs Fz (pc + 1) ls (.double (FP.i2d x) :: st) n h cells slots) : V l G M rc rs Fz pc ls (.int x :: st) n h cells slots := by
  intro p e s m args below meth c H locs lsA d0 hx hb hr hml hts hown hlk hnm hd0 hC hS hbs hP hl
  exact lv_i2d hx hb hd  (kk p e s m args below meth c H locs lsA d0 hx hb hr hml hts hown hlk hnm hd0 hC hS hbs hP hl)
theorem v_i2f {l : Launch} {G : vG} {M : vM} {rc rs : Nat} {Fz : vFin} {pc : Nat} {ls : List (Option Value)} {st : List Value} {n : Nat} {h : AH} {cells slots : Nat} {x : Int32} (hd : decode M.2.1 pc = .ok (.i2f, 1))  (kk : V l G M rc rs Fz (pc + 1) ls (.float (FP.i2f x) :: st) n h cells slots) : V l G M rc rs Fz pc ls (.int x :: st) n h cells slots := by
  intro p e s m args below meth c H locs lsA d0 hx hb hr hml hts hown hlk hnm hd0 hC hS hbs hP hl
  exact lv_i2f hx hb hd  (kk p e s m args below meth c H locs lsA d0 hx hb hr hml hts hown hlk hnm hd0 hC hS hbs hP hl)
theorem v_dcmp {l : Launch} {G : vG} {M : vM} {rc rs : Nat} {Fz : vFin} {pc : Nat} {ls : List (Option Value)} {st : List Value} {n : Nat} {h : AH} {cells slots : Nat} {x y : UInt64} {op : CmpOp} (hd : decode M.2.1 pc = .ok (.dcmp op, 1))  (kk : V l G M rc rs Fz (pc + 1) ls (.int (Op.cmpValue (FP.dcmp x y) op) :: st) n h cells slots) : V l G M rc rs Fz pc ls (.double y :: .double x :: st) n h cells slots := by
  intro p e s m args below meth c H locs lsA d0 hx hb hr hml hts hown hlk hnm hd0 hC hS hbs hP hl
  exact lv_dcmp hx hb hd  (kk p e s m args below meth c H locs lsA d0 hx hb hr hml hts hown hlk hnm hd0 hC hS hbs hP hl)
theorem v_fconst0 {l : Launch} {G : vG} {M : vM} {rc rs : Nat} {Fz : vFin} {pc : Nat} {ls : List (Option Value)} {st : List Value} {n : Nat} {h : AH} {cells slots : Nat}  (hd : decode M.2.1 pc = .ok (.fconst 0, 1))  (kk : V l G M rc rs Fz (pc + 1) ls (.float FP.fconst0 :: st) n h cells slots) : V l G M rc rs Fz pc ls (st) n h cells slots := by
  intro p e s m args below meth c H locs lsA d0 hx hb hr hml hts hown hlk hnm hd0 hC hS hbs hP hl
  exact lv_fconst0 hx hb hd  (kk p e s m args below meth c H locs lsA d0 hx hb hr hml hts hown hlk hnm hd0 hC hS hbs hP hl)
theorem v_dconst0 {l : Launch} {G : vG} {M : vM} {rc rs : Nat} {Fz : vFin} {pc : Nat} {ls : List (Option Value)} {st : List Value} {n : Nat} {h : AH} {cells slots : Nat}  (hd : decode M.2.1 pc = .ok (.dconst 0, 1))  (kk : V l G M rc rs Fz (pc + 1) ls (.double FP.dconst0 :: st) n h cells slots) : V l G M rc rs Fz pc ls (st) n h cells slots := by
  intro p e s m args below meth c H locs lsA d0 hx hb hr hml hts hown hlk hnm hd0 hC hS hbs hP hl
  exact lv_dconst0 hx hb hd  (kk p e s m args below meth c H locs lsA d0 hx hb hr hml hts hown hlk hnm hd0 hC hS hbs hP hl)
theorem v_dup {l : Launch} {G : vG} {M : vM} {rc rs : Nat} {Fz : vFin} {pc : Nat} {ls : List (Option Value)} {st : List Value} {n : Nat} {h : AH} {cells slots : Nat} {va : Value} (hd : decode M.2.1 pc = .ok (.dup, 1)) (ha : va.category = 1) (kk : V l G M rc rs Fz (pc + 1) ls (va :: va :: st) n h cells slots) : V l G M rc rs Fz pc ls (va :: st) n h cells slots := by
  intro p e s m args below meth c H locs lsA d0 hx hb hr hml hts hown hlk hnm hd0 hC hS hbs hP hl
  exact lv_dup hx hb hd ha (kk p e s m args below meth c H locs lsA d0 hx hb hr hml hts hown hlk hnm hd0 hC hS hbs hP hl)
theorem v_pop {l : Launch} {G : vG} {M : vM} {rc rs : Nat} {Fz : vFin} {pc : Nat} {ls : List (Option Value)} {st : List Value} {n : Nat} {h : AH} {cells slots : Nat} {va : Value} (hd : decode M.2.1 pc = .ok (.pop, 1)) (ha : va.category = 1) (kk : V l G M rc rs Fz (pc + 1) ls (st) n h cells slots) : V l G M rc rs Fz pc ls (va :: st) n h cells slots := by
  intro p e s m args below meth c H locs lsA d0 hx hb hr hml hts hown hlk hnm hd0 hC hS hbs hP hl
  exact lv_pop hx hb hd ha (kk p e s m args below meth c H locs lsA d0 hx hb hr hml hts hown hlk hnm hd0 hC hS hbs hP hl)
theorem v_dup2 {l : Launch} {G : vG} {M : vM} {rc rs : Nat} {Fz : vFin} {pc : Nat} {ls : List (Option Value)} {st : List Value} {n : Nat} {h : AH} {cells slots : Nat} {va vb : Value} (hd : decode M.2.1 pc = .ok (.dup2, 1)) (ha : va.category = 1) (hb2 : vb.category = 1) (kk : V l G M rc rs Fz (pc + 1) ls (va :: vb :: va :: vb :: st) n h cells slots) : V l G M rc rs Fz pc ls (va :: vb :: st) n h cells slots := by
  intro p e s m args below meth c H locs lsA d0 hx hb hr hml hts hown hlk hnm hd0 hC hS hbs hP hl
  exact lv_dup2_11 hx hb hd ha hb2 (kk p e s m args below meth c H locs lsA d0 hx hb hr hml hts hown hlk hnm hd0 hC hS hbs hP hl)
theorem v_dup_x1 {l : Launch} {G : vG} {M : vM} {rc rs : Nat} {Fz : vFin} {pc : Nat} {ls : List (Option Value)} {st : List Value} {n : Nat} {h : AH} {cells slots : Nat} {va vb : Value} (hd : decode M.2.1 pc = .ok (.dup_x1, 1)) (ha : va.category = 1) (hb2 : vb.category = 1) (kk : V l G M rc rs Fz (pc + 1) ls (va :: vb :: va :: st) n h cells slots) : V l G M rc rs Fz pc ls (va :: vb :: st) n h cells slots := by
  intro p e s m args below meth c H locs lsA d0 hx hb hr hml hts hown hlk hnm hd0 hC hS hbs hP hl
  exact lv_dup_x1 hx hb hd ha hb2 (kk p e s m args below meth c H locs lsA d0 hx hb hr hml hts hown hlk hnm hd0 hC hS hbs hP hl)
theorem v_if_eq {l : Launch} {G : vG} {M : vM} {rc rs : Nat} {Fz : vFin} {pc : Nat} {ls : List (Option Value)} {st : List Value} {n : Nat} {h : AH} {cells slots : Nat} {x : Int32} {off : Int} {tgt : Nat} (hd : decode M.2.1 pc = .ok (.ifCond .eq off, 3)) (ht : (pc : Int) + off = (tgt : Int)) (kt : x = 0 → V l G M rc rs Fz tgt ls (st) n h cells slots) (kf : ¬ x = 0 → V l G M rc rs Fz (pc + 3) ls (st) n h cells slots) : V l G M rc rs Fz pc ls (.int x :: st) n h cells slots := by
  intro p e s m args below meth c H locs lsA d0 hx hb hr hml hts hown hlk hnm hd0 hC hS hbs hP hl
  exact lv_if_eq hx hb hd ht (fun z => kt z p e s m args below meth c H locs lsA d0 hx hb hr hml hts hown hlk hnm hd0 hC hS hbs hP hl) (fun z => kf z p e s m args below meth c H locs lsA d0 hx hb hr hml hts hown hlk hnm hd0 hC hS hbs hP hl)
theorem v_icmp_eq {l : Launch} {G : vG} {M : vM} {rc rs : Nat} {Fz : vFin} {pc : Nat} {ls : List (Option Value)} {st : List Value} {n : Nat} {h : AH} {cells slots : Nat} {x y : Int32} {off : Int} {tgt : Nat} (hd : decode M.2.1 pc = .ok (.if_icmp .eq off, 3)) (ht : (pc : Int) + off = (tgt : Int)) (kt : x = y → V l G M rc rs Fz tgt ls (st) n h cells slots) (kf : ¬ x = y → V l G M rc rs Fz (pc + 3) ls (st) n h cells slots) : V l G M rc rs Fz pc ls (.int y :: .int x :: st) n h cells slots := by
  intro p e s m args below meth c H locs lsA d0 hx hb hr hml hts hown hlk hnm hd0 hC hS hbs hP hl
  exact lv_icmp_eq hx hb hd ht (fun z => kt z p e s m args below meth c H locs lsA d0 hx hb hr hml hts hown hlk hnm hd0 hC hS hbs hP hl) (fun z => kf z p e s m args below meth c H locs lsA d0 hx hb hr hml hts hown hlk hnm hd0 hC hS hbs hP hl)
theorem v_if_ne {l : Launch} {G : vG} {M : vM} {rc rs : Nat} {Fz : vFin} {pc : Nat} {ls : List (Option Value)} {st : List Value} {n : Nat} {h : AH} {cells slots : Nat} {x : Int32} {off : Int} {tgt : Nat} (hd : decode M.2.1 pc = .ok (.ifCond .ne off, 3)) (ht : (pc : Int) + off = (tgt : Int)) (kt : ¬ x = 0 → V l G M rc rs Fz tgt ls (st) n h cells slots) (kf : x = 0 → V l G M rc rs Fz (pc + 3) ls (st) n h cells slots) : V l G M rc rs Fz pc ls (.int x :: st) n h cells slots := by
  intro p e s m args below meth c H locs lsA d0 hx hb hr hml hts hown hlk hnm hd0 hC hS hbs hP hl
  exact lv_if_ne hx hb hd ht (fun z => kt z p e s m args below meth c H locs lsA d0 hx hb hr hml hts hown hlk hnm hd0 hC hS hbs hP hl) (fun z => kf z p e s m args below meth c H locs lsA d0 hx hb hr hml hts hown hlk hnm hd0 hC hS hbs hP hl)
theorem v_icmp_ne {l : Launch} {G : vG} {M : vM} {rc rs : Nat} {Fz : vFin} {pc : Nat} {ls : List (Option Value)} {st : List Value} {n : Nat} {h : AH} {cells slots : Nat} {x y : Int32} {off : Int} {tgt : Nat} (hd : decode M.2.1 pc = .ok (.if_icmp .ne off, 3)) (ht : (pc : Int) + off = (tgt : Int)) (kt : ¬ x = y → V l G M rc rs Fz tgt ls (st) n h cells slots) (kf : x = y → V l G M rc rs Fz (pc + 3) ls (st) n h cells slots) : V l G M rc rs Fz pc ls (.int y :: .int x :: st) n h cells slots := by
  intro p e s m args below meth c H locs lsA d0 hx hb hr hml hts hown hlk hnm hd0 hC hS hbs hP hl
  exact lv_icmp_ne hx hb hd ht (fun z => kt z p e s m args below meth c H locs lsA d0 hx hb hr hml hts hown hlk hnm hd0 hC hS hbs hP hl) (fun z => kf z p e s m args below meth c H locs lsA d0 hx hb hr hml hts hown hlk hnm hd0 hC hS hbs hP hl)
theorem v_if_lt {l : Launch} {G : vG} {M : vM} {rc rs : Nat} {Fz : vFin} {pc : Nat} {ls : List (Option Value)} {st : List Value} {n : Nat} {h : AH} {cells slots : Nat} {x : Int32} {off : Int} {tgt : Nat} (hd : decode M.2.1 pc = .ok (.ifCond .lt off, 3)) (ht : (pc : Int) + off = (tgt : Int)) (kt : x < 0 → V l G M rc rs Fz tgt ls (st) n h cells slots) (kf : ¬ x < 0 → V l G M rc rs Fz (pc + 3) ls (st) n h cells slots) : V l G M rc rs Fz pc ls (.int x :: st) n h cells slots := by
  intro p e s m args below meth c H locs lsA d0 hx hb hr hml hts hown hlk hnm hd0 hC hS hbs hP hl
  exact lv_if_lt hx hb hd ht (fun z => kt z p e s m args below meth c H locs lsA d0 hx hb hr hml hts hown hlk hnm hd0 hC hS hbs hP hl) (fun z => kf z p e s m args below meth c H locs lsA d0 hx hb hr hml hts hown hlk hnm hd0 hC hS hbs hP hl)
theorem v_icmp_lt {l : Launch} {G : vG} {M : vM} {rc rs : Nat} {Fz : vFin} {pc : Nat} {ls : List (Option Value)} {st : List Value} {n : Nat} {h : AH} {cells slots : Nat} {x y : Int32} {off : Int} {tgt : Nat} (hd : decode M.2.1 pc = .ok (.if_icmp .lt off, 3)) (ht : (pc : Int) + off = (tgt : Int)) (kt : x < y → V l G M rc rs Fz tgt ls (st) n h cells slots) (kf : ¬ x < y → V l G M rc rs Fz (pc + 3) ls (st) n h cells slots) : V l G M rc rs Fz pc ls (.int y :: .int x :: st) n h cells slots := by
  intro p e s m args below meth c H locs lsA d0 hx hb hr hml hts hown hlk hnm hd0 hC hS hbs hP hl
  exact lv_icmp_lt hx hb hd ht (fun z => kt z p e s m args below meth c H locs lsA d0 hx hb hr hml hts hown hlk hnm hd0 hC hS hbs hP hl) (fun z => kf z p e s m args below meth c H locs lsA d0 hx hb hr hml hts hown hlk hnm hd0 hC hS hbs hP hl)
theorem v_if_ge {l : Launch} {G : vG} {M : vM} {rc rs : Nat} {Fz : vFin} {pc : Nat} {ls : List (Option Value)} {st : List Value} {n : Nat} {h : AH} {cells slots : Nat} {x : Int32} {off : Int} {tgt : Nat} (hd : decode M.2.1 pc = .ok (.ifCond .ge off, 3)) (ht : (pc : Int) + off = (tgt : Int)) (kt : 0 ≤ x → V l G M rc rs Fz tgt ls (st) n h cells slots) (kf : ¬ 0 ≤ x → V l G M rc rs Fz (pc + 3) ls (st) n h cells slots) : V l G M rc rs Fz pc ls (.int x :: st) n h cells slots := by
  intro p e s m args below meth c H locs lsA d0 hx hb hr hml hts hown hlk hnm hd0 hC hS hbs hP hl
  exact lv_if_ge hx hb hd ht (fun z => kt z p e s m args below meth c H locs lsA d0 hx hb hr hml hts hown hlk hnm hd0 hC hS hbs hP hl) (fun z => kf z p e s m args below meth c H locs lsA d0 hx hb hr hml hts hown hlk hnm hd0 hC hS hbs hP hl)
theorem v_icmp_ge {l : Launch} {G : vG} {M : vM} {rc rs : Nat} {Fz : vFin} {pc : Nat} {ls : List (Option Value)} {st : List Value} {n : Nat} {h : AH} {cells slots : Nat} {x y : Int32} {off : Int} {tgt : Nat} (hd : decode M.2.1 pc = .ok (.if_icmp .ge off, 3)) (ht : (pc : Int) + off = (tgt : Int)) (kt : y ≤ x → V l G M rc rs Fz tgt ls (st) n h cells slots) (kf : ¬ y ≤ x → V l G M rc rs Fz (pc + 3) ls (st) n h cells slots) : V l G M rc rs Fz pc ls (.int y :: .int x :: st) n h cells slots := by
  intro p e s m args below meth c H locs lsA d0 hx hb hr hml hts hown hlk hnm hd0 hC hS hbs hP hl
  exact lv_icmp_ge hx hb hd ht (fun z => kt z p e s m args below meth c H locs lsA d0 hx hb hr hml hts hown hlk hnm hd0 hC hS hbs hP hl) (fun z => kf z p e s m args below meth c H locs lsA d0 hx hb hr hml hts hown hlk hnm hd0 hC hS hbs hP hl)
theorem v_if_gt {l : Launch} {G : vG} {M : vM} {rc rs : Nat} {Fz : vFin} {pc : Nat} {ls : List (Option Value)} {st : List Value} {n : Nat} {h : AH} {cells slots : Nat} {x : Int32} {off : Int} {tgt : Nat} (hd : decode M.2.1 pc = .ok (.ifCond .gt off, 3)) (ht : (pc : Int) + off = (tgt : Int)) (kt : 0 < x → V l G M rc rs Fz tgt ls (st) n h cells slots) (kf : ¬ 0 < x → V l G M rc rs Fz (pc + 3) ls (st) n h cells slots) : V l G M rc rs Fz pc ls (.int x :: st) n h cells slots := by
  intro p e s m args below meth c H locs lsA d0 hx hb hr hml hts hown hlk hnm hd0 hC hS hbs hP hl
  exact lv_if_gt hx hb hd ht (fun z => kt z p e s m args below meth c H locs lsA d0 hx hb hr hml hts hown hlk hnm hd0 hC hS hbs hP hl) (fun z => kf z p e s m args below meth c H locs lsA d0 hx hb hr hml hts hown hlk hnm hd0 hC hS hbs hP hl)
theorem v_icmp_gt {l : Launch} {G : vG} {M : vM} {rc rs : Nat} {Fz : vFin} {pc : Nat} {ls : List (Option Value)} {st : List Value} {n : Nat} {h : AH} {cells slots : Nat} {x y : Int32} {off : Int} {tgt : Nat} (hd : decode M.2.1 pc = .ok (.if_icmp .gt off, 3)) (ht : (pc : Int) + off = (tgt : Int)) (kt : y < x → V l G M rc rs Fz tgt ls (st) n h cells slots) (kf : ¬ y < x → V l G M rc rs Fz (pc + 3) ls (st) n h cells slots) : V l G M rc rs Fz pc ls (.int y :: .int x :: st) n h cells slots := by
  intro p e s m args below meth c H locs lsA d0 hx hb hr hml hts hown hlk hnm hd0 hC hS hbs hP hl
  exact lv_icmp_gt hx hb hd ht (fun z => kt z p e s m args below meth c H locs lsA d0 hx hb hr hml hts hown hlk hnm hd0 hC hS hbs hP hl) (fun z => kf z p e s m args below meth c H locs lsA d0 hx hb hr hml hts hown hlk hnm hd0 hC hS hbs hP hl)
theorem v_if_le {l : Launch} {G : vG} {M : vM} {rc rs : Nat} {Fz : vFin} {pc : Nat} {ls : List (Option Value)} {st : List Value} {n : Nat} {h : AH} {cells slots : Nat} {x : Int32} {off : Int} {tgt : Nat} (hd : decode M.2.1 pc = .ok (.ifCond .le off, 3)) (ht : (pc : Int) + off = (tgt : Int)) (kt : x ≤ 0 → V l G M rc rs Fz tgt ls (st) n h cells slots) (kf : ¬ x ≤ 0 → V l G M rc rs Fz (pc + 3) ls (st) n h cells slots) : V l G M rc rs Fz pc ls (.int x :: st) n h cells slots := by
  intro p e s m args below meth c H locs lsA d0 hx hb hr hml hts hown hlk hnm hd0 hC hS hbs hP hl
  exact lv_if_le hx hb hd ht (fun z => kt z p e s m args below meth c H locs lsA d0 hx hb hr hml hts hown hlk hnm hd0 hC hS hbs hP hl) (fun z => kf z p e s m args below meth c H locs lsA d0 hx hb hr hml hts hown hlk hnm hd0 hC hS hbs hP hl)
theorem v_icmp_le {l : Launch} {G : vG} {M : vM} {rc rs : Nat} {Fz : vFin} {pc : Nat} {ls : List (Option Value)} {st : List Value} {n : Nat} {h : AH} {cells slots : Nat} {x y : Int32} {off : Int} {tgt : Nat} (hd : decode M.2.1 pc = .ok (.if_icmp .le off, 3)) (ht : (pc : Int) + off = (tgt : Int)) (kt : x ≤ y → V l G M rc rs Fz tgt ls (st) n h cells slots) (kf : ¬ x ≤ y → V l G M rc rs Fz (pc + 3) ls (st) n h cells slots) : V l G M rc rs Fz pc ls (.int y :: .int x :: st) n h cells slots := by
  intro p e s m args below meth c H locs lsA d0 hx hb hr hml hts hown hlk hnm hd0 hC hS hbs hP hl
  exact lv_icmp_le hx hb hd ht (fun z => kt z p e s m args below meth c H locs lsA d0 hx hb hr hml hts hown hlk hnm hd0 hC hS hbs hP hl) (fun z => kf z p e s m args below meth c H locs lsA d0 hx hb hr hml hts hown hlk hnm hd0 hC hS hbs hP hl)
theorem v_goto {l : Launch} {G : vG} {M : vM} {rc rs : Nat} {Fz : vFin} {pc : Nat} {ls : List (Option Value)} {st : List Value} {n : Nat} {h : AH} {cells slots : Nat} {off : Int} {tgt : Nat} (hd : decode M.2.1 pc = .ok (.goto off, 3)) (ht : (pc : Int) + off = (tgt : Int)) (kk : V l G M rc rs Fz tgt ls (st) n h cells slots) : V l G M rc rs Fz pc ls (st) n h cells slots := by
  intro p e s m args below meth c H locs lsA d0 hx hb hr hml hts hown hlk hnm hd0 hC hS hbs hP hl
  exact lv_goto hx hb hd ht (kk p e s m args below meth c H locs lsA d0 hx hb hr hml hts hown hlk hnm hd0 hC hS hbs hP hl)
theorem v_tsIn {l : Launch} {G : vG} {M : vM} {rc rs : Nat} {Fz : vFin} {pc : Nat} {ls : List (Option Value)} {st : List Value} {n : Nat} {h : AH} {cells slots : Nat} {dflt lo hi : Int} {offs : Array Int} {len : Nat} {x : Int32} {off : Int} {tgt : Nat} (hd : decode M.2.1 pc = .ok (.tableswitch dflt lo hi offs, len)) (h1 : ¬ x.toInt < lo) (h2 : ¬ hi < x.toInt) (ho : offs[(x.toInt - lo).toNat]? = some off) (ht : (pc : Int) + off = (tgt : Int)) (kk : V l G M rc rs Fz tgt ls (st) n h cells slots) : V l G M rc rs Fz pc ls (.int x :: st) n h cells slots := by
  intro p e s m args below meth c H locs lsA d0 hx hb hr hml hts hown hlk hnm hd0 hC hS hbs hP hl
  exact lv_tableIn hx hb hd h1 h2 ho ht (kk p e s m args below meth c H locs lsA d0 hx hb hr hml hts hown hlk hnm hd0 hC hS hbs hP hl)
theorem v_tsOut {l : Launch} {G : vG} {M : vM} {rc rs : Nat} {Fz : vFin} {pc : Nat} {ls : List (Option Value)} {st : List Value} {n : Nat} {h : AH} {cells slots : Nat} {dflt lo hi : Int} {offs : Array Int} {len : Nat} {x : Int32} {tgt : Nat} (hd : decode M.2.1 pc = .ok (.tableswitch dflt lo hi offs, len)) (h1 : x.toInt < lo ∨ hi < x.toInt) (ht : (pc : Int) + dflt = (tgt : Int)) (kk : V l G M rc rs Fz tgt ls (st) n h cells slots) : V l G M rc rs Fz pc ls (.int x :: st) n h cells slots := by
  intro p e s m args below meth c H locs lsA d0 hx hb hr hml hts hown hlk hnm hd0 hC hS hbs hP hl
  exact lv_tableOut hx hb hd h1 ht (kk p e s m args below meth c H locs lsA d0 hx hb hr hml hts hown hlk hnm hd0 hC hS hbs hP hl)
theorem v_lookup {l : Launch} {G : vG} {M : vM} {rc rs : Nat} {Fz : vFin} {pc : Nat} {ls : List (Option Value)} {st : List Value} {n : Nat} {h : AH} {cells slots : Nat} {dflt : Int} {ps : Array (Int × Int)} {len : Nat} {x : Int32} {off : Int} {tgt : Nat} (hd : decode M.2.1 pc = .ok (.lookupswitch dflt ps, len)) (hp : (ps.toList.zip (ps.toList.drop 1)).all (fun (a, next) => a.1 < next.1) = true) (ho : Op.lookupswitch.offset ps.toList dflt x.toInt = off) (ht : (pc : Int) + off = (tgt : Int)) (kk : V l G M rc rs Fz tgt ls (st) n h cells slots) : V l G M rc rs Fz pc ls (.int x :: st) n h cells slots := by
  intro p e s m args below meth c H locs lsA d0 hx hb hr hml hts hown hlk hnm hd0 hC hS hbs hP hl
  exact lv_lookup hx hb hd hp ho ht (kk p e s m args below meth c H locs lsA d0 hx hb hr hml hts hown hlk hnm hd0 hC hS hbs hP hl)
theorem v_widen {l : Launch} {G : vG} {M : vM} {rc rs : Nat} {Fz : vFin} {pc : Nat} {ls : List (Option Value)} {st : List Value} {n : Nat} {h : AH} {cells slots : Nat} {k1 k2 : Nat} (h1 : cells ≤ k1) (h2 : slots ≤ k2) (kk : V l G M rc rs Fz pc ls (st) n h k1 k2) : V l G M rc rs Fz pc ls (st) n h cells slots := by
  intro p e s m args below meth c H locs lsA d0 hx hb hr hml hts hown hlk hnm hd0 hC hS hbs hP hl
  exact W.widen h1 h2 (kk p e s m args below meth c H locs lsA d0 hx hb hr hml hts hown hlk hnm hd0 hC hS hbs hP hl)
theorem v_getf {l : Launch} {G : vG} {M : vM} {rc rs : Nat} {Fz : vFin} {pc : Nat} {ls : List (Option Value)} {st : List Value} {n : Nat} {h : AH} {cells slots : Nat} {index a ci k N : Nat} {fs : List Value} {C : String} {T : u_T} {v : Value} (hd : decode M.2.1 pc = .ok (.getfield index, 3)) (he : h a = some (.inr (ci, fs))) (hc : vwCl[ci]? = some (C, T, N)) (hin : ∀ w ∈ u_ws C T N, w ∈ gw) (hk : k < N) (hw : Cond.fieldLink M.1.cls index (T k).1 (T k).2.1 (T k).2.2.1 ∈ gw) (hv : fs[k]? = some v) (kk : V l G M rc rs Fz (pc + 3) ls (v :: st) n h cells slots) : V l G M rc rs Fz pc ls (.ref a :: st) n h cells slots := by
  intro p e s m args below meth c H locs lsA d0 hx hb hr hml hts hown hlk hnm hd0 hC hS hbs hP hl
  exact va_get (D := gD G) (cl := vwCl) (tys := gT G) hx hb (dr_words hts d0) hin hown hC.1 (hP.one he) 0 rfl hc k hk (dr_words hts d0 _ hw) (fun _ q => q) hv hd (kk p e s m args below meth c H locs lsA d0 hx hb hr hml hts hown hlk hnm hd0 hC hS hbs hP hl)
theorem v_putf {l : Launch} {G : vG} {M : vM} {rc rs : Nat} {Fz : vFin} {pc : Nat} {ls : List (Option Value)} {st : List Value} {n : Nat} {h : AH} {cells slots : Nat} {index a ci k N : Nat} {fs : List Value} {C : String} {T : u_T} {v : Value} (hd : decode M.2.1 pc = .ok (.putfield index, 3)) (he : h a = some (.inr (ci, fs))) (hc : vwCl[ci]? = some (C, T, N)) (hin : ∀ w ∈ u_ws C T N, w ∈ gw) (ty0 : Nat → FieldType) (hty : ∀ k, k < N → parseFieldDescriptor (T k).2.2.1 = some (ty0 k)) (hnm2 : ∀ a, a < N → ∀ b, b < N → a ≠ b → (T a).2.1 ≠ (T b).2.1) (hk : k < N) (hw : Cond.fieldLink M.1.cls index (T k).1 (T k).2.1 (T k).2.2.1 ∈ gw) (hfin : (T k).2.2.2 = false ∨ ((T k).2.2.2 = true ∧ M.1.name = "<init>" ∧ (T k).1 = M.1.cls)) (hn : narrow (ty0 k) v = v) (hfit : fits (ty0 k) v = true) (hl2 : k < fs.length) (kk : V l G M rc rs Fz (pc + 3) ls (st) n (va_up h a (some (.inr (ci, fs.set k v)))) cells slots) : V l G M rc rs Fz pc ls (v :: .ref a :: st) n h cells slots := by
  intro p e s m args below meth c H locs lsA d0 hx hb hr hml hts hown hlk hnm hd0 hC hS hbs hP hl
  have hts2 := dr_words hts d0
  have hown2 : (s.setDrawn d0).vm.findClass M.1.cls = some m.cls := hown
  have hK2 : va_K (gD G) vwCl (gT G) (s.setDrawn d0) := hC.1
  have hap := va_apart (own := M.1.cls) hts2 hin ty0 hty hnm2 hK2 hc
  obtain ⟨hge, r, h1, cell, q1, q2, q3, q4⟩ := hP.2.2 _ _ he
  have hr2 : r = (C, T, N) := Option.some.inj (h1.symm.trans hc)
  subst hr2
  obtain ⟨hS1, hfc, kC, hkC, hkind⟩ := hK2.1 ci _ hc
  obtain ⟨cf, kf, fi, f, hi, hsl⟩ := hS1 k hk
  have hlay := hts2 _ (hin _ (u_in_lay hk))
  unfold u_lay at hlay
  have hst := (u_facts hfc hkC (u_lays hts2 hin hk) hi).1
  have fin : ∀ H' : Heap, H'[a]? = some (cell.setSlot f.slot v) → H'.size = H.size → (∀ q, q ≠ a → H'[q]? = H[q]?) → W p l e ({ frames := M.2.2.2.2.1, cells := rc, slots := rs, locals := M.2.2.2.2.2 } : Room) (s.setDrawn d0) m args below meth c H' (locs ++ [⟨a, f.slot⟩]) cells slots (Fz below args s) (F0 m (pc + 3) lsA st) := by
    intro H' e1 e2 e3
    rw [hsl] at e1 ⊢
    exact kk p e s m args below meth c _ _ lsA d0 hx hb hr hml hts hown hlk hnm hd0 hC (hS.put e2 e3 hge) hbs (hP.set he ⟨_, hc, t_OB.to (V := updV (vp_V fs) k v) ⟨_, e1, q2, q3, t_set q4 hap hk v⟩ (fun j _ => vp_updV_set hl2 v j)⟩ e2 e3) hl
  rcases hfin with hfin | ⟨hfin, hin2, hdecl⟩
  · rw [if_neg (by rw [hfin]; decide)] at hlay
    have h6 := u_store hfc hkC hkind hlay hi (hty k hk) hn hfit
    exact W.putK hx hb (f := f) ⟨hown2, hts2 _ hw, ⟨_, _, _, hi⟩, hst⟩ (by rw [q2]; exact h6) q1 q3 (by rw [hsl]; exact k2_hasslot (q4 k hk)) rfl rfl hd fin
  · rw [if_pos hfin] at hlay
    have hcf : m.cls = cf := by
      obtain ⟨_, _, c', _, _, _, -, -, hf', -, -, -, hown3, -⟩ := Cond.laysFinal_spec hlay
      have e1 : c' = cf := by have := hi.symm.trans hf'; simp at this; exact this.1.symm
      rw [hdecl] at hown3
      rw [← e1]; exact Option.some.inj (hown2.symm.trans hown3)
    have h6 := u_fits hfc hkC hkind (Or.inr hlay) hi (hty k hk) hn hfit
    exact W.putFinK hx hb hown2 (hts2 _ hw) hi hst hcf (hnm.trans hin2) (by rw [q2]; exact h6) q1 q3 (by rw [hsl]; exact k2_hasslot (q4 k hk)) rfl rfl hd fin
theorem v_iald {l : Launch} {G : vG} {M : vM} {rc rs : Nat} {Fz : vFin} {pc : Nat} {ls : List (Option Value)} {st : List Value} {n : Nat} {h : AH} {cells slots : Nat} {a k : Nat} {f : Nat → Int32} {i : Int32} (hd : decode M.2.1 pc = .ok (.iaload, 1)) (he : h a = some (.inl (gC G 0, k, .inl f))) (hi : vp_in i k) (kk : V l G M rc rs Fz (pc + 1) ls (.int (f i.toNatClampNeg) :: st) n h cells slots) : V l G M rc rs Fz pc ls (.int i :: .ref a :: st) n h cells slots := by
  intro p e s m args below meth c H locs lsA d0 hx hb hr hml hts hown hlk hnm hd0 hC hS hbs hP hl
  have hK2 : va_K (gD G) vwCl (gT G) (s.setDrawn d0) := hC.1
  exact va_iald hx hb hK2 (hP.one he) 0 0 rfl rfl hi hd (kk p e s m args below meth c H locs lsA d0 hx hb hr hml hts hown hlk hnm hd0 hC hS hbs hP hl)
theorem v_cald {l : Launch} {G : vG} {M : vM} {rc rs : Nat} {Fz : vFin} {pc : Nat} {ls : List (Option Value)} {st : List Value} {n : Nat} {h : AH} {cells slots : Nat} {a k : Nat} {f : Nat → Int32} {i : Int32} (hd : decode M.2.1 pc = .ok (.caload, 1)) (he : h a = some (.inl (gC G 1, k, .inl f))) (hi : vp_in i k) (kk : V l G M rc rs Fz (pc + 1) ls (.int (f i.toNatClampNeg) :: st) n h cells slots) : V l G M rc rs Fz pc ls (.int i :: .ref a :: st) n h cells slots := by
  intro p e s m args below meth c H locs lsA d0 hx hb hr hml hts hown hlk hnm hd0 hC hS hbs hP hl
  have hK2 : va_K (gD G) vwCl (gT G) (s.setDrawn d0) := hC.1
  exact va_cald hx hb hK2 (hP.one he) 0 1 rfl rfl hi hd (kk p e s m args below meth c H locs lsA d0 hx hb hr hml hts hown hlk hnm hd0 hC hS hbs hP hl)
theorem v_bald {l : Launch} {G : vG} {M : vM} {rc rs : Nat} {Fz : vFin} {pc : Nat} {ls : List (Option Value)} {st : List Value} {n : Nat} {h : AH} {cells slots : Nat} {a k : Nat} {f : Nat → Int32} {i : Int32} (hd : decode M.2.1 pc = .ok (.baload, 1)) (he : h a = some (.inl (gC G 2, k, .inl f))) (hi : vp_in i k) (kk : V l G M rc rs Fz (pc + 1) ls (.int (f i.toNatClampNeg) :: st) n h cells slots) : V l G M rc rs Fz pc ls (.int i :: .ref a :: st) n h cells slots := by
  intro p e s m args below meth c H locs lsA d0 hx hb hr hml hts hown hlk hnm hd0 hC hS hbs hP hl
  have hK2 : va_K (gD G) vwCl (gT G) (s.setDrawn d0) := hC.1
  exact va_bald hx hb hK2 (hP.one he) 0 2 rfl rfl hi hd (kk p e s m args below meth c H locs lsA d0 hx hb hr hml hts hown hlk hnm hd0 hC hS hbs hP hl)
theorem v_iast {l : Launch} {G : vG} {M : vM} {rc rs : Nat} {Fz : vFin} {pc : Nat} {ls : List (Option Value)} {st : List Value} {n : Nat} {h : AH} {cells slots : Nat} {a k : Nat} {f : Nat → Int32} {i x : Int32} (hd : decode M.2.1 pc = .ok (.iastore, 1)) (he : h a = some (.inl (gC G 0, k, .inl f))) (hi : vp_in i k) (kk : V l G M rc rs Fz (pc + 1) ls (st) n (va_up h a (some (.inl (gC G 0, k, .inl (upd f i.toNatClampNeg x))))) cells slots) : V l G M rc rs Fz pc ls (.int x :: .int i :: .ref a :: st) n h cells slots := by
  intro p e s m args below meth c H locs lsA d0 hx hb hr hml hts hown hlk hnm hd0 hC hS hbs hP hl
  obtain ⟨hge, hat⟩ := hP.2.2 _ _ he
  have hat2 : H[a]? = some (vp_cell (gC G 0) (k, .inl f)) := hat
  have hK2 : va_K (gD G) vwCl (gT G) s := hC.1
  have hAr : (s.setDrawn d0).isArrayOf (vp_cell (gC G 0) (k, .inl f)) .int := (hK2.2 0 _ rfl).1 k (fun j => .int (f j))
  have hkn : (vp_cell (gC G 0) (k, .inl f)).vm ≠ .unknown := fun q => by cases q
  have hin9 : ¬ (i < 0 ∨ (vp_cell (gC G 0) (k, .inl f)).slots.size ≤ i.toNatClampNeg) := by
    rw [vp_cell_i, arrV_size]
    exact hi
  refine W.iast hx hb hat2 hAr hkn hin9 rfl rfl hd fun H1 e z oq => ?_
  refine kk p _ s m args below meth c _ _ lsA d0 hx hb hr hml hts hown hlk hnm hd0 hC (hS.put z oq hge) hbs (hP.set he ?_ z oq) hl
  show H1[a]? = some (vp_cell _ _)
  rw [e]
  rw [vp_cell_i, vp_cell_i, arrV_store]
  congr 2
  funext q
  by_cases hq : q = i.toNatClampNeg
  · subst hq
    simp [updV, upd, vp_nar]
    try rfl
  · simp [updV, upd, hq]
theorem v_cast {l : Launch} {G : vG} {M : vM} {rc rs : Nat} {Fz : vFin} {pc : Nat} {ls : List (Option Value)} {st : List Value} {n : Nat} {h : AH} {cells slots : Nat} {a k : Nat} {f : Nat → Int32} {i x : Int32} (hd : decode M.2.1 pc = .ok (.castore, 1)) (he : h a = some (.inl (gC G 1, k, .inl f))) (hi : vp_in i k) (kk : V l G M rc rs Fz (pc + 1) ls (st) n (va_up h a (some (.inl (gC G 1, k, .inl (upd f i.toNatClampNeg (vp_nar .char x)))))) cells slots) : V l G M rc rs Fz pc ls (.int x :: .int i :: .ref a :: st) n h cells slots := by
  intro p e s m args below meth c H locs lsA d0 hx hb hr hml hts hown hlk hnm hd0 hC hS hbs hP hl
  obtain ⟨hge, hat⟩ := hP.2.2 _ _ he
  have hat2 : H[a]? = some (vp_cell (gC G 1) (k, .inl f)) := hat
  have hK2 : va_K (gD G) vwCl (gT G) s := hC.1
  have hAr : (s.setDrawn d0).isArrayOf (vp_cell (gC G 1) (k, .inl f)) .char := (hK2.2 1 _ rfl).1 k (fun j => .int (f j))
  have hkn : (vp_cell (gC G 1) (k, .inl f)).vm ≠ .unknown := fun q => by cases q
  have hin9 : ¬ (i < 0 ∨ (vp_cell (gC G 1) (k, .inl f)).slots.size ≤ i.toNatClampNeg) := by
    rw [vp_cell_i, arrV_size]
    exact hi
  refine W.cast hx hb hat2 hAr hkn hin9 rfl rfl hd fun H1 e z oq => ?_
  refine kk p _ s m args below meth c _ _ lsA d0 hx hb hr hml hts hown hlk hnm hd0 hC (hS.put z oq hge) hbs (hP.set he ?_ z oq) hl
  show H1[a]? = some (vp_cell _ _)
  rw [e]
  rw [vp_cell_i, vp_cell_i, arrV_store]
  congr 2
  funext q
  by_cases hq : q = i.toNatClampNeg
  · subst hq
    simp [updV, upd, vp_nar]
    try rfl
  · simp [updV, upd, hq]
theorem v_bast {l : Launch} {G : vG} {M : vM} {rc rs : Nat} {Fz : vFin} {pc : Nat} {ls : List (Option Value)} {st : List Value} {n : Nat} {h : AH} {cells slots : Nat} {a k : Nat} {f : Nat → Int32} {i x : Int32} (hd : decode M.2.1 pc = .ok (.bastore, 1)) (he : h a = some (.inl (gC G 2, k, .inl f))) (hi : vp_in i k) (kk : V l G M rc rs Fz (pc + 1) ls (st) n (va_up h a (some (.inl (gC G 2, k, .inl (upd f i.toNatClampNeg (vp_nar .byte x)))))) cells slots) : V l G M rc rs Fz pc ls (.int x :: .int i :: .ref a :: st) n h cells slots := by
  intro p e s m args below meth c H locs lsA d0 hx hb hr hml hts hown hlk hnm hd0 hC hS hbs hP hl
  obtain ⟨hge, hat⟩ := hP.2.2 _ _ he
  have hat2 : H[a]? = some (vp_cell (gC G 2) (k, .inl f)) := hat
  have hK2 : va_K (gD G) vwCl (gT G) s := hC.1
  have hAr : (s.setDrawn d0).isArrayOf (vp_cell (gC G 2) (k, .inl f)) .byte := (hK2.2 2 _ rfl).1 k (fun j => .int (f j))
  have hkn : (vp_cell (gC G 2) (k, .inl f)).vm ≠ .unknown := fun q => by cases q
  have hin9 : ¬ (i < 0 ∨ (vp_cell (gC G 2) (k, .inl f)).slots.size ≤ i.toNatClampNeg) := by
    rw [vp_cell_i, arrV_size]
    exact hi
  refine W.bast hx hb hat2 hAr hkn hin9 rfl rfl hd fun H1 e z oq => ?_
  refine kk p _ s m args below meth c _ _ lsA d0 hx hb hr hml hts hown hlk hnm hd0 hC (hS.put z oq hge) hbs (hP.set he ?_ z oq) hl
  show H1[a]? = some (vp_cell _ _)
  rw [e]
  rw [vp_cell_i, vp_cell_i, arrV_store]
  congr 2
  funext q
  by_cases hq : q = i.toNatClampNeg
  · subst hq
    simp [updV, upd, vp_nar]
    try rfl
  · simp [updV, upd, hq]
theorem v_alen {l : Launch} {G : vG} {M : vM} {rc rs : Nat} {Fz : vFin} {pc : Nat} {ls : List (Option Value)} {st : List Value} {n : Nat} {h : AH} {cells slots : Nat} {a t k : Nat} {f : (Nat → Int32) ⊕ (Nat → Int64) ⊕ (Nat → UInt32) ⊕ (Nat → UInt64) ⊕ (Nat → Option Nat)} (hd : decode M.2.1 pc = .ok (.arraylength, 1)) (he : h a = some (.inl (gC G t, k, f))) (ht : t < 4) (kk : V l G M rc rs Fz (pc + 1) ls (.int (Int32.ofNat k) :: st) n h cells slots) : V l G M rc rs Fz pc ls (.ref a :: st) n h cells slots := by
  intro p e s m args below meth c H locs lsA d0 hx hb hr hml hts hown hlk hnm hd0 hC hS hbs hP hl
  obtain ⟨ty, hty⟩ : ∃ ty, (gT G)[t]? = some (gC G t, ty) := by
    rcases (by omega : t = 0 ∨ t = 1 ∨ t = 2 ∨ t = 3) with rfl | rfl | rfl | rfl
    · exact ⟨_, rfl⟩
    · exact ⟨_, rfl⟩
    · exact ⟨_, rfl⟩
    · exact ⟨_, rfl⟩
  have hK2 : va_K (gD G) vwCl (gT G) (s.setDrawn d0) := hC.1
  exact va_alen hx hb hK2 (hP.one he) 0 t rfl hty rfl hd (kk p e s m args below meth c H locs lsA d0 hx hb hr hml hts hown hlk hnm hd0 hC hS hbs hP hl)
theorem v_aald {l : Launch} {G : vG} {M : vM} {rc rs : Nat} {Fz : vFin} {pc : Nat} {ls : List (Option Value)} {st : List Value} {n : Nat} {h : AH} {cells slots : Nat} {a k : Nat} {f : Nat → Option Nat} {i : Int32} (hd : decode M.2.1 pc = .ok (.aaload, 1)) (he : h a = some (.inl (gC G 3, k, .inr (.inr (.inr (.inr f)))))) (hi : vp_in i k) (kk : V l G M rc rs Fz (pc + 1) ls (va_rf (f i.toNatClampNeg) :: st) n h cells slots) : V l G M rc rs Fz pc ls (.int i :: .ref a :: st) n h cells slots := by
  intro p e s m args below meth c H locs lsA d0 hx hb hr hml hts hown hlk hnm hd0 hC hS hbs hP hl
  have hK2 : va_K (gD G) vwCl (gT G) (s.setDrawn d0) := hC.1
  exact va_aldq hx hb hK2 (hP.one he) 0 3 rfl rfl hi hd (kk p e s m args below meth c H locs lsA d0 hx hb hr hml hts hown hlk hnm hd0 hC hS hbs hP hl)
end
section
theorem cx.ao {G : vG} {s : State} {H : Heap} (h : cx G s H) : va_AO RX1 s := h.2.2.2.2.2.2.2.2.2.2.2.2
theorem cx.nest {G : vG} {s : State} {H : Heap} (h : cx G s H) : ∀ q ∈ nl, va_Nw (.methodLinkNest q.1 q.2.1 q.2.2.1 q.2.2.2) s := h.2.2.2.2.2.2.2.2.2.1
theorem va_S.push {A : Nat → Prop} {H0 H H1 : Heap} {locs : List Loc} (h : va_S A H0 H locs) (z : H.size ≤ H1.size) (oq : ∀ q : Nat, q < H.size → H1[q]? = H[q]?) : va_S A H0 H1 locs := ⟨Nat.le_trans h.1 z, fun q h1 h2 => (oq q (Nat.lt_of_lt_of_le h1 h.1)).trans (h.2.1 q h1 h2), h.2.2⟩
theorem v_new {l : Launch} {G : vG} {M : vM} {rc rs : Nat} {Fz : vFin} {pc : Nat} {ls : List (Option Value)} {st : List Value} {n : Nat} {h : AH} {cells slots : Nat} {index ci N : Nat} {fs : List Value} {C : String} {T : u_T} (hd : decode M.2.1 pc = .ok (.new index, 3)) (hc : vwCl[ci]? = some (C, T, N)) (hin : ∀ w ∈ u_ws C T N, w ∈ gw) (ty0 : Nat → FieldType) (hty : ∀ k, k < N → parseFieldDescriptor (T k).2.2.1 = some (ty0 k)) (hcl : Cond.classLink M.1.cls index C ∈ gw) (hinst : Cond.instantiable C N ∈ gw) (hini : Cond.initialized C ∈ gw) (hfs : ∀ j, j < N → defaultValue (ty0 j) = vp_V fs j) (hc1 : cells + 1 ≤ rc) (hs1 : slots + N ≤ rs) (kk : V l G M rc rs Fz (pc + 3) ls (.ref n :: st) (n + 1) (va_up h n (some (.inr (ci, fs)))) (cells + 1) (slots + N)) : V l G M rc rs Fz pc ls (st) n h cells slots := by
  intro p e s m args below meth c H locs lsA d0 hx hb hr hml hts hown hlk hnm hd0 hC hS hbs hP hl
  have hts2 := dr_words hts d0
  have hKn : u_Kn s C T N ((gD G).1 ci) ((gD G).2 ci) := hC.1.1 ci _ hc
  have hfc : (s.setDrawn d0).vm.findClass C = some ((gD G).1 ci) := hKn.2.1
  have hw1 := hts2 _ hcl
  have hw2 := hts2 _ hinst
  have hw3 := hts2 _ hini
  refine W.newcK (s := s.setDrawn d0) hx hb hown hw1 hw2 hw3 rfl hd hc1 hs1 hfc hP.1 fun H1 kC hkC e1 z1 o1 => ?_
  have hkC2 : s.vm.classes[(gD G).1 ci]? = some kC := hkC
  have hb9 := u_born (s := s) ty0 hts hin hKn hkC2 e1 hty
  have hat9 : va_at (gD G) vwCl (n, .inr (ci, fs)) H1 := ⟨(C, T, N), hc, hb9.to hfs⟩
  exact kk p e s m args below meth c _ _ lsA d0 hx hb hr hml hts hown hlk hnm hd0 hC (hS.push (by rw [z1, ← hP.1]; exact Nat.le_succ _) (fun q hq => o1 q (by rw [← hP.1]; exact hq))) hbs (hP.push hat9 z1 o1) hl
theorem v_newi {l : Launch} {G : vG} {M : vM} {rc rs : Nat} {Fz : vFin} {pc : Nat} {ls : List (Option Value)} {st : List Value} {n : Nat} {h : AH} {cells slots : Nat} {x : Int32} {N : Nat} (hd : decode M.2.1 pc = .ok (.newarray .int, 2)) (hw : Cond.arrayClass .int ∈ gw) (hx0 : ¬ x < 0) (hN : x.toNatClampNeg = N) (hN2 : N ≤ 100000) (hc1 : cells + 1 ≤ rc) (hs1 : slots + N ≤ rs) (kk : V l G M rc rs Fz (pc + 2) ls (.ref n :: st) (n + 1) (va_up h n (some (.inl (gC G 0, N, .inl (fun _ => 0))))) (cells + 1) (slots + N)) : V l G M rc rs Fz pc ls (.int x :: st) n h cells slots := by
  intro p e s m args below meth c H locs lsA d0 hx hb hr hml hts hown hlk hnm hd0 hC hS hbs hP hl
  have hts2 := dr_words hts d0
  refine va_newaK (s := s.setDrawn d0) hx hb (atype := .int) (hts2 _ hw) rfl hd rfl hx0 hN (by show N * 4 ≤ 536870912; omega) hc1 hs1 hP.1 fun H1 cA e1 z1 o1 hAr hNm => ?_
  have hcA : cA = gC G 0 := Option.some.inj (hNm.symm.trans (hC.1.2 0 _ rfl).2)
  subst hcA
  exact kk p e s m args below meth c _ _ lsA d0 hx hb hr hml hts hown hlk hnm hd0 hC (hS.push (by rw [z1, ← hP.1]; exact Nat.le_succ _) (fun q hq => o1 q (by rw [← hP.1]; exact hq))) hbs (hP.push (show H1[n]? = some (vp_cell _ _) from e1) z1 o1) hl
theorem v_newc {l : Launch} {G : vG} {M : vM} {rc rs : Nat} {Fz : vFin} {pc : Nat} {ls : List (Option Value)} {st : List Value} {n : Nat} {h : AH} {cells slots : Nat} {x : Int32} {N : Nat} (hd : decode M.2.1 pc = .ok (.newarray .char, 2)) (hw : Cond.arrayClass .char ∈ gw) (hx0 : ¬ x < 0) (hN : x.toNatClampNeg = N) (hN2 : N ≤ 100000) (hc1 : cells + 1 ≤ rc) (hs1 : slots + N ≤ rs) (kk : V l G M rc rs Fz (pc + 2) ls (.ref n :: st) (n + 1) (va_up h n (some (.inl (gC G 1, N, .inl (fun _ => 0))))) (cells + 1) (slots + N)) : V l G M rc rs Fz pc ls (.int x :: st) n h cells slots := by
  intro p e s m args below meth c H locs lsA d0 hx hb hr hml hts hown hlk hnm hd0 hC hS hbs hP hl
  have hts2 := dr_words hts d0
  refine va_newaK (s := s.setDrawn d0) hx hb (atype := .char) (hts2 _ hw) rfl hd rfl hx0 hN (by show N * 2 ≤ 536870912; omega) hc1 hs1 hP.1 fun H1 cA e1 z1 o1 hAr hNm => ?_
  have hcA : cA = gC G 1 := Option.some.inj (hNm.symm.trans (hC.1.2 1 _ rfl).2)
  subst hcA
  exact kk p e s m args below meth c _ _ lsA d0 hx hb hr hml hts hown hlk hnm hd0 hC (hS.push (by rw [z1, ← hP.1]; exact Nat.le_succ _) (fun q hq => o1 q (by rw [← hP.1]; exact hq))) hbs (hP.push (show H1[n]? = some (vp_cell _ _) from e1) z1 o1) hl
theorem v_newb {l : Launch} {G : vG} {M : vM} {rc rs : Nat} {Fz : vFin} {pc : Nat} {ls : List (Option Value)} {st : List Value} {n : Nat} {h : AH} {cells slots : Nat} {x : Int32} {N : Nat} (hd : decode M.2.1 pc = .ok (.newarray .byte, 2)) (hw : Cond.arrayClass .byte ∈ gw) (hx0 : ¬ x < 0) (hN : x.toNatClampNeg = N) (hN2 : N ≤ 100000) (hc1 : cells + 1 ≤ rc) (hs1 : slots + N ≤ rs) (kk : V l G M rc rs Fz (pc + 2) ls (.ref n :: st) (n + 1) (va_up h n (some (.inl (gC G 2, N, .inl (fun _ => 0))))) (cells + 1) (slots + N)) : V l G M rc rs Fz pc ls (.int x :: st) n h cells slots := by
  intro p e s m args below meth c H locs lsA d0 hx hb hr hml hts hown hlk hnm hd0 hC hS hbs hP hl
  have hts2 := dr_words hts d0
  refine va_newaK (s := s.setDrawn d0) hx hb (atype := .byte) (hts2 _ hw) rfl hd rfl hx0 hN (by show N * 1 ≤ 536870912; omega) hc1 hs1 hP.1 fun H1 cA e1 z1 o1 hAr hNm => ?_
  have hcA : cA = gC G 2 := Option.some.inj (hNm.symm.trans (hC.1.2 2 _ rfl).2)
  subst hcA
  exact kk p e s m args below meth c _ _ lsA d0 hx hb hr hml hts hown hlk hnm hd0 hC (hS.push (by rw [z1, ← hP.1]; exact Nat.le_succ _) (fun q hq => o1 q (by rw [← hP.1]; exact hq))) hbs (hP.push (show H1[n]? = some (vp_cell _ _) from e1) z1 o1) hl
theorem v_newq {l : Launch} {G : vG} {M : vM} {rc rs : Nat} {Fz : vFin} {pc : Nat} {ls : List (Option Value)} {st : List Value} {n : Nat} {h : AH} {cells slots : Nat} {index : Nat} {x : Int32} {N : Nat} (hd : decode M.2.1 pc = .ok (.anewarray index, 3)) (hcl : Cond.classLink M.1.cls index RX1 ∈ gw) (hx0 : ¬ x < 0) (hN : x.toNatClampNeg = N) (hN2 : N ≤ 100000) (hc1 : cells + 1 ≤ rc) (hs1 : slots + N ≤ rs) (kk : V l G M rc rs Fz (pc + 3) ls (.ref n :: st) (n + 1) (va_up h n (some (.inl (gC G 3, N, .inr (.inr (.inr (.inr (fun _ => none)))))))) (cells + 1) (slots + N)) : V l G M rc rs Fz pc ls (.int x :: st) n h cells slots := by
  intro p e s m args below meth c H locs lsA d0 hx hb hr hml hts hown hlk hnm hd0 hC hS hbs hP hl
  have hts2 := dr_words hts d0
  subst hN
  have hO : va_AO RX1 (s.setDrawn d0) := va_AO.moved (u := s) (Vm.Alike.refl s.vm) hC.ao
  refine W.anew (s := s.setDrawn d0) hx hb hown (hts2 _ hcl) (va_AO.use hO) rfl hd rfl hx0 (by omega) hc1 hs1 fun cA kA comp f1 f2 f3 f4 => ?_
  obtain ⟨kA2, comp2, g1, g2, g3, g4⟩ := (hC.1.2 3 _ rfl).2
  have hcA : cA = gC G 3 := Option.some.inj (f1.symm.trans g4)
  subst hcA
  generalize hH1 : H.push ({ cls := gC G 3, slots := Array.replicate x.toNatClampNeg .null, vm := .none } : Cell) = H1
  have z1 : H1.size = n + 1 := by rw [← hH1, Array.size_push, hP.1]
  have e1 : H1[n]? = some (arrV (gC G 3) x.toNatClampNeg (fun _ => .null)) := by rw [← hH1, ← hP.1, Array.getElem?_push_size, ← arrV_new]
  have o1 : ∀ q : Nat, q < n → H1[q]? = H[q]? := fun q hq => by rw [← hH1, Array.getElem?_push, if_neg (by rw [hP.1]; exact Nat.ne_of_lt hq)]
  rw [show H.size = n from hP.1]
  exact kk p e s m args below meth c _ _ lsA d0 hx hb hr hml hts hown hlk hnm hd0 hC (hS.push (by rw [z1, ← hP.1]; exact Nat.le_succ _) (fun q hq => o1 q (by rw [← hP.1]; exact hq))) hbs (hP.push (show H1[n]? = some (vp_cell _ _) from e1) z1 o1) hl
theorem v_aast {l : Launch} {G : vG} {M : vM} {rc rs : Nat} {Fz : vFin} {pc : Nat} {ls : List (Option Value)} {st : List Value} {n : Nat} {h : AH} {cells slots : Nat} {a k v ci N : Nat} {f : Nat → Option Nat} {vs : List Value} {T : u_T} {i : Int32} (hd : decode M.2.1 pc = .ok (.aastore, 1)) (he : h a = some (.inl (gC G 3, k, .inr (.inr (.inr (.inr f)))))) (hv : h v = some (.inr (ci, vs))) (hc : vwCl[ci]? = some (RX1, T, N)) (hi : vp_in i k) (kk : V l G M rc rs Fz (pc + 1) ls (st) n (va_up h a (some (.inl (gC G 3, k, .inr (.inr (.inr (.inr (va_up f i.toNatClampNeg (some v))))))))) cells slots) : V l G M rc rs Fz pc ls (.ref v :: .int i :: .ref a :: st) n h cells slots := by
  intro p e s m args below meth c H locs lsA d0 hx hb hr hml hts hown hlk hnm hd0 hC hS hbs hP hl
  have hlt : i.toNatClampNeg < k := Nat.not_le.mp fun q => hi (Or.inr q)
  have h0 : ¬ i < 0 := fun q => hi (Or.inl q)
  obtain ⟨hge, hat⟩ := hP.2.2 _ _ he
  obtain ⟨-, r', hr', cellV, g1, g2, g3, -⟩ := hP.2.2 _ _ hv
  have hcls := (hC.1.1 ci _ hc).2
  obtain ⟨kA, comp, k1, k2, k3, -⟩ := (hC.1.2 3 _ rfl).2
  have hcomp : comp = (gD G).1 ci := Option.some.inj (k3.symm.trans hcls.1)
  subst hcomp
  obtain ⟨kC, hkC, -⟩ := hcls.2
  have hat2 : H[a]? = some (vp_cell (gC G 3) (k, .inr (.inr (.inr (.inr f))))) := hat
  have hin9 : ¬ i < 0 ∧ i.toNatClampNeg < (vp_cell (gC G 3) (k, .inr (.inr (.inr (.inr f))))).slots.size := ⟨h0, by rw [vp_cell_q, arrV_size]; exact hlt⟩
  have hcls : ClassAt (s.setDrawn d0) RX1 ((gD G).1 ci) := hcls
  refine W.aast (s := s.setDrawn d0) hx hb hat2 (fun q h => by cases h) (fun h => by cases h) k1 k2 rfl hkC hin9 g1 (fun q h => by rw [g3] at h; cases h) (by rw [g2]; exact hkC) (by rw [g2]; exact va_assign hcls) rfl rfl hd fun H1 e9 z oq => ?_
  refine kk p e s m args below meth c _ _ lsA d0 hx hb hr hml hts hown hlk hnm hd0 hC (hS.put z oq hge) hbs (hP.set he ?_ z oq) hl
  show H1[a]? = some (vp_cell _ _)
  rw [e9]
  rw [vp_cell_q, vp_cell_q, arrV_store]
  congr 2
  funext q
  by_cases hq : q = i.toNatClampNeg
  · subst hq
    simp [updV, va_up, va_rf]
  · simp [updV, va_up, hq]
theorem v_copy {l : Launch} {G : vG} {M : vM} {rc rs : Nat} {Fz : vFin} {pc : Nat} {ls : List (Option Value)} {st : List Value} {n : Nat} {h : AH} {cells slots : Nat} {index a0 a t n0 n1 : Nat} {f g : Nat → Int32} {ty : FieldType} {sp dp x : Int32} (hd : decode M.2.1 pc = .ok (.invokestatic index, 3)) (hlink : Cond.methodLink M.1.cls index arraycopyName ∈ gw) (hnat : Cond.native arraycopyName ∈ gw) (hstat : Cond.static arraycopyName ∈ gw) (hini : Cond.initialized "java/lang/System" ∈ gw) (ha0 : h a0 = some (.inl (gC G t, n0, .inl f))) (ha1 : h a = some (.inl (gC G t, n1, .inl g))) (ht : (gT G)[t]? = some (gC G t, ty)) (hprim : refKind ty = false) (h1 : ¬ sp < 0) (h2 : ¬ dp < 0) (h3 : ¬ x < 0) (h4 : sp.toNatClampNeg + x.toNatClampNeg ≤ n0) (h5 : dp.toNatClampNeg + x.toNatClampNeg ≤ n1) (hfit : ∀ i, i < x.toNatClampNeg → fits ty (.int (f (sp.toNatClampNeg + i))) = true) (hfr : 1 ≤ M.2.2.2.2.1) (hlo : (st.map fun v => v.category).sum + (nativeFrameWords "java/lang/System" "arraycopy" 5 + 11) ≤ M.2.2.2.2.2) (kk : V l G M rc rs Fz (pc + 3) ls (st) n (va_up h a (some (.inl (gC G t, n1, .inl (va_cpy f g sp.toNatClampNeg dp.toNatClampNeg x.toNatClampNeg))))) cells slots) : V l G M rc rs Fz pc ls (.int x :: .int dp :: .ref a :: .int sp :: .ref a0 :: st) n h cells slots := by
  intro p e s m args below meth c H locs lsA d0 hx hb hr hml hts hown hlk hnm hd0 hC hS hbs hP hl
  have hts2 := dr_words hts d0
  have nn : ∀ z : Int32, ¬ z < 0 → z.toInt = (z.toNatClampNeg : Int) := by
    intro z hz
    have hz0 : (0 : Int) ≤ z.toInt := by
      have := Int32.not_lt.mp hz
      simpa using Int32.le_iff_toInt_le.mp this
    show z.toInt = ((z.toInt.toNat : Nat) : Int)
    omega
  obtain ⟨hge0, hc0⟩ := hP.2.2 _ _ ha0
  obtain ⟨hge, hc1⟩ := hP.2.2 _ _ ha1
  have hc0 : H[a0]? = some (vp_cell (gC G t) (n0, .inl f)) := hc0
  have hc1 : H[a]? = some (vp_cell (gC G t) (n1, .inl g)) := hc1
  intro T hT X
  obtain ⟨-, k0, hk0, cm0, hkk0⟩ := (hC.1.2 t _ ht).1 n0 (fun j => .int (f j))
  obtain ⟨-, k1, hk1, cm1, hkk1⟩ := (hC.1.2 t _ ht).1 n1 (fun j => .int (g j))
  obtain ⟨vm', X', step⟩ := X.arraycopy hx hown (hts2 _ hlink) (hts2 _ hnat) (hts2 _ hstat) (hts2 _ hini) (src := a0) (dst := a) (cs := vp_cell (gC G t) (n0, .inl f)) (cd := vp_cell (gC G t) (n1, .inl g)) (srcPos := sp) (destPos := dp) (n := x) (by rw [hT]; exact hc0) (by rw [hT]; exact hc1)
    (fun _ h => by cases h) (fun _ h => by cases h) (fun h => by cases h) (fun h => by cases h) hk0 hk1 hkk0 hkk1 (by simp [hprim]) h1 h2 h3
    (by rw [nn sp h1, nn x h3]; show ¬ _ > ((arrV (gC G t) n0 (fun j => .int (f j))).slots.size : Int); rw [arrV_size]; omega)
    (by rw [nn dp h2, nn x h3]; show ¬ _ > ((arrV (gC G t) n1 (fun j => .int (g j))).slots.size : Int); rw [arrV_size]; omega)
    (fun vm₁ _ i hi => by
      have e : (vp_cell (gC G t) (n0, .inl f)).slots.getD (sp.toNatClampNeg + i) .null = .int (f (sp.toNatClampNeg + i)) := by
        show (arrV (gC G t) n0 (fun j => .int (f j))).slots.getD _ _ = _
        rw [Array.getD_eq_getD_getElem?, arrV_read _ _ (by omega)]
        rfl
      refine ⟨?_, ?_⟩
      · rw [e]
        exact hfit i hi
      · rw [e]
        exact trivial)
    (g := F0 m pc lsA (.int x :: .int dp :: .ref a :: .int sp :: .ref a0 :: st)) rfl (by rw [hml]; exact hl.1) (rest := st) rfl (by rw [hb]; exact hd) hfr (by show 2 * 0 + _ + _ ≤ M.2.2.2.2.2; omega)
  have e1 : copied (vp_cell (gC G t) (n0, .inl f)) (vp_cell (gC G t) (n1, .inl g)) sp dp x = vp_cell (gC G t) (n1, .inl (va_cpy f g sp.toNatClampNeg dp.toNatClampNeg x.toNatClampNeg)) := va_copied (fun z => .int z) (gC G t) (gC G t) f g h4
  rw [e1] at X' step
  have hl9 : a < H.size := (Array.getElem?_eq_some_iff.mp hc1).1
  have hheap : ((T.setVm vm').setCell a (vp_cell (gC G t) (n1, .inl (va_cpy f g sp.toNatClampNeg dp.toNatClampNeg x.toNatClampNeg)))).heap = H.setIfInBounds a (vp_cell (gC G t) (n1, .inl (va_cpy f g sp.toNatClampNeg dp.toNatClampNeg x.toNatClampNeg))) := by rw [← hT]; rfl
  have oq : ∀ q : Nat, q ≠ a → (H.setIfInBounds a (vp_cell (gC G t) (n1, .inl (va_cpy f g sp.toNatClampNeg dp.toNatClampNeg x.toNatClampNeg))))[q]? = H[q]? := fun q hq => by simp [Array.getElem?_setIfInBounds, Ne.symm hq]
  obtain ⟨t2, a1, b1⟩ := kk p e s m args below meth c (H.setIfInBounds a (vp_cell (gC G t) (n1, .inl (va_cpy f g sp.toNatClampNeg dp.toNatClampNeg x.toNatClampNeg)))) _ lsA d0 hx hb hr hml hts hown hlk hnm hd0 hC ⟨by simp; exact hS.1, fun q g1 g2 => by
      rw [oq q (fun e => g2 (by rw [e]; exact hge))]
      exact hS.2.1 q g1 g2, fun q hq => by
      rcases List.mem_append.mp hq with h | h
      · exact hS.2.2 q h
      · obtain ⟨z, -, hz⟩ := List.mem_map.mp h
        rw [← hz]
        exact hge⟩ hbs (hP.set ha1 (show (H.setIfInBounds a _)[a]? = some _ by simp [Array.getElem?_setIfInBounds, hl9]) (by simp) oq) hl _ hheap X'
  exact ⟨t2, step t2 a1, b1⟩
theorem v_max {l : Launch} {G : vG} {M : vM} {rc rs : Nat} {Fz : vFin} {pc : Nat} {ls : List (Option Value)} {st : List Value} {n : Nat} {h : AH} {cells slots : Nat} {index : Nat} {x y : Int32} (hd : decode M.2.1 pc = .ok (.invokestatic index, 3)) (hlink : Cond.methodLink M.1.cls index Lib.Math.max.name ∈ gw) (hstat : Cond.static Lib.Math.max.name ∈ gw) (hini : Cond.initialized "java/lang/Math" ∈ gw) (hcode : Cond.code Lib.Math.max.name Lib.Math.max.code 2 (some .int) ∈ gw) (hfr : 1 ≤ M.2.2.2.2.1) (hlo : (st.map fun v => v.category).sum + 13 ≤ M.2.2.2.2.2) (hc1 : cells ≤ rc) (hs1 : slots ≤ rs) (kk : V l G M rc rs Fz (pc + 3) ls (.int (if x < y then y else x) :: st) n h cells slots) : V l G M rc rs Fz pc ls (.int y :: .int x :: st) n h cells slots := by
  intro p e s m args below meth c H locs lsA d0 hx hb hr hml hts hown hlk hnm hd0 hC hS hbs hP hl
  have hts2 := dr_words hts d0
  exact va_mmax (s := s.setDrawn d0) hx hb (hml.trans hl.1.symm) hown (hts2 _ hlink) (hts2 _ hstat) (hts2 _ hini) (hts2 _ hcode) hfr hlo hc1 hs1 hd (kk p e s m args below meth c H locs lsA d0 hx hb hr hml hts hown hlk hnm hd0 hC hS hbs hP hl)
theorem v_min {l : Launch} {G : vG} {M : vM} {rc rs : Nat} {Fz : vFin} {pc : Nat} {ls : List (Option Value)} {st : List Value} {n : Nat} {h : AH} {cells slots : Nat} {index : Nat} {x y : Int32} (hd : decode M.2.1 pc = .ok (.invokestatic index, 3)) (hlink : Cond.methodLink M.1.cls index Lib.Math.min.name ∈ gw) (hstat : Cond.static Lib.Math.min.name ∈ gw) (hini : Cond.initialized "java/lang/Math" ∈ gw) (hcode : Cond.code Lib.Math.min.name Lib.Math.min.code 2 (some .int) ∈ gw) (hfr : 1 ≤ M.2.2.2.2.1) (hlo : (st.map fun v => v.category).sum + 13 ≤ M.2.2.2.2.2) (hc1 : cells ≤ rc) (hs1 : slots ≤ rs) (kk : V l G M rc rs Fz (pc + 3) ls (.int (if y < x then y else x) :: st) n h cells slots) : V l G M rc rs Fz pc ls (.int y :: .int x :: st) n h cells slots := by
  intro p e s m args below meth c H locs lsA d0 hx hb hr hml hts hown hlk hnm hd0 hC hS hbs hP hl
  have hts2 := dr_words hts d0
  exact va_mmin (s := s.setDrawn d0) hx hb (hml.trans hl.1.symm) hown (hts2 _ hlink) (hts2 _ hstat) (hts2 _ hini) (hts2 _ hcode) hfr hlo hc1 hs1 hd (kk p e s m args below meth c H locs lsA d0 hx hb hr hml hts hown hlk hnm hd0 hC hS hbs hP hl)
theorem v_objinit {l : Launch} {G : vG} {M : vM} {rc rs : Nat} {Fz : vFin} {pc : Nat} {ls : List (Option Value)} {st : List Value} {n : Nat} {h : AH} {cells slots : Nat} {index a : Nat} (hd : decode M.2.1 pc = .ok (.invokespecial index, 3)) (hlink : Cond.methodLink M.1.cls index objectInit ∈ gw) (hinst : Cond.instanceMethod objectInit ∈ gw) (hcode : Cond.code objectInit ⟨#[0xb1]⟩ 1 none ∈ gw) (hfr : 1 ≤ M.2.2.2.2.1) (hlo : (st.map fun v => v.category).sum + 12 ≤ M.2.2.2.2.2) (kk : V l G M rc rs Fz (pc + 3) ls (st) n h cells slots) : V l G M rc rs Fz pc ls (.ref a :: st) n h cells slots := by
  intro p e s m args below meth c H locs lsA d0 hx hb hr hml hts hown hlk hnm hd0 hC hS hbs hP hl
  have hts2 := dr_words hts d0
  refine W.objInit (s := s.setDrawn d0) hx hb hown (hts2 _ hlink) (hts2 _ hinst) (hts2 _ hcode) rfl (by rw [hml]; exact hl.1) rfl hd hfr (by show 2 * 0 + _ + 12 ≤ M.2.2.2.2.2; omega) ?_
  exact kk p e s m args below meth c H locs lsA d0 hx hb hr hml hts hown hlk hnm hd0 hC hS hbs hP hl
def cV (own : String) (index : Nat) (M2 : vM) (k : Nat) : Prop := Cond.methodLink own index M2.1 ∈ gw ∧ Cond.instanceMethod M2.1 ∈ gw ∧ Cond.selects M2.1.cls M2.1 M2.1 ∈ gw ∧ Cond.initialized M2.1.cls ∈ gw ∧ Cond.code M2.1 M2.2.1 M2.2.2.1 M2.2.2.2.1 ∈ gw ∧ (M2.1.cls ≠ "java/lang/invoke/MethodHandle" ∧ M2.1.cls ≠ "java/lang/invoke/VarHandle" ∧ (parseMethodDescriptor M2.1.desc).map (fun d => d.parameters.length) = some k)
def cS (own : String) (index : Nat) (M2 : vM) (k : Nat) : Prop := Cond.methodLink own index M2.1 ∈ gw ∧ Cond.static M2.1 ∈ gw ∧ Cond.initialized M2.1.cls ∈ gw ∧ Cond.code M2.1 M2.2.1 M2.2.2.1 M2.2.2.2.1 ∈ gw ∧ (M2.1.cls ≠ "java/lang/invoke/MethodHandle" ∧ M2.1.cls ≠ "java/lang/invoke/VarHandle" ∧ (parseMethodDescriptor M2.1.desc).map (fun d => d.parameters.length) = some k)
def cI (own : String) (index : Nat) (M2 : vM) (k : Nat) : Prop := Cond.methodLink own index M2.1 ∈ gw ∧ Cond.instanceMethod M2.1 ∈ gw ∧ Cond.initialized M2.1.cls ∈ gw ∧ Cond.code M2.1 M2.2.1 M2.2.2.1 M2.2.2.2.1 ∈ gw ∧ M2.1.name = "<init>" ∧ (M2.1.cls ≠ "java/lang/invoke/MethodHandle" ∧ M2.1.cls ≠ "java/lang/invoke/VarHandle" ∧ (parseMethodDescriptor M2.1.desc).map (fun d => d.parameters.length) = some k)
def cIN (own : String) (index : Nat) (M2 : vM) (host : String) (k : Nat) : Prop := (own, index, M2.1, host) ∈ nl ∧ Cond.instanceMethod M2.1 ∈ gw ∧ Cond.initialized M2.1.cls ∈ gw ∧ Cond.code M2.1 M2.2.1 M2.2.2.1 M2.2.2.2.1 ∈ gw ∧ M2.1.name = "<init>" ∧ (M2.1.cls ≠ "java/lang/invoke/MethodHandle" ∧ M2.1.cls ≠ "java/lang/invoke/VarHandle" ∧ (parseMethodDescriptor M2.1.desc).map (fun d => d.parameters.length) = some k)
def cSN (own : String) (index : Nat) (M2 : vM) (host : String) (k : Nat) : Prop := (own, index, M2.1, host) ∈ nl ∧ Cond.static M2.1 ∈ gw ∧ Cond.initialized M2.1.cls ∈ gw ∧ Cond.code M2.1 M2.2.1 M2.2.2.1 M2.2.2.2.1 ∈ gw ∧ (M2.1.cls ≠ "java/lang/invoke/MethodHandle" ∧ M2.1.cls ≠ "java/lang/invoke/VarHandle" ∧ (parseMethodDescriptor M2.1.desc).map (fun d => d.parameters.length) = some k)
theorem v_callV {l : Launch} {G : vG} {M : vM} {rc rs : Nat} {Fz : vFin} {pc : Nat} {ls : List (Option Value)} {st : List Value} {n : Nat} {h : AH} {cells slots : Nat} {M2 : vM} {index mc ms : Nat} {As : List Value} {st0 : List Value} {Q2 : Option Value → Nat → AH → Prop} {b ci N : Nat} {fs : List Value} {T : u_T} (hd : decode M.2.1 pc = .ok (.invokevirtual index, 3)) (hM : Mt l G M2 (.ref b :: As) n h mc ms Q2) (hw : cV M.1.cls index M2 As.length) (he : h b = some (.inr (ci, fs))) (hc : vwCl[ci]? = some (M2.1.cls, T, N)) (hs0 : st0 = As.reverse ++ .ref b :: st) (hR : M2.2.2.2.2.1 + 1 ≤ M.2.2.2.2.1 ∧ 8 + (M2.2.2.1 + 11) + M2.2.2.2.2.2 ≤ M.2.2.2.2.2) (hst : (st.map fun v => v.category).sum ≤ 8) (hf : cells + mc ≤ rc ∧ slots + ms ≤ rs) (kk : ∀ (r : Option Value) (n2 : Nat) (h2 : AH), Q2 r n2 h2 → V l G M rc rs Fz (pc + 3) ls (r.toList ++ st) n2 h2 (cells + mc) (slots + ms)) : V l G M rc rs Fz pc ls (st0) n h cells slots := by
  intro p e s m args below meth c H locs lsA d0 hx hb hr hml hts hown hlk hnm hd0 hC hS hbs hP hl
  subst hs0
  obtain ⟨w1, w2, w3, w4, w5, w6⟩ := hw
  exact px_callD hd0 (va_runV_D (C := M2.1.cls) (As := As) (rest := st) ⟨hx, hb, hml, hown, dr_words hts d0⟩ hM (cwV As.length (dr_words hts d0) (gw_in (fun w hw => by
    simp only [wsV, List.cons_append, List.nil_append, List.mem_cons] at hw
    rcases hw with rfl | rfl | rfl | rfl | hw
    · exact w1
    · exact w2
    · exact w3
    · exact w4
    · exact gw_mW w5 w hw)) rfl rfl rfl ⟨rfl, w6⟩ hR) ⟨pcM.blind, va_recv (s := s.setDrawn d0) (D := gD G) (cl := vwCl) (tys := gT G) hC.1 (hP.one he) (q0 := 0) hc rfl, fun U hU hW => ⟨rfl, by rw [hU]; exact cx.warm hW (cx.same (u := s) rfl (hC.kept hS.2.1)), by rw [hU]; exact Nat.le_trans hbs hS.1, by rw [hU]; exact hP⟩⟩ rfl rfl hl.1 rfl (lv_room hst) hd hf) hS (fun r n2 h2 H1 locs1 d1 hd1 hQ hP1 hS1 => kk r n2 h2 hQ p e s m args below meth c _ _ lsA d1 hx hb hr hml hts hown hlk hnm hd1 hC hS1 hbs hP1 hl)
theorem v_callS {l : Launch} {G : vG} {M : vM} {rc rs : Nat} {Fz : vFin} {pc : Nat} {ls : List (Option Value)} {st : List Value} {n : Nat} {h : AH} {cells slots : Nat} {M2 : vM} {index mc ms : Nat} {As : List Value} {st0 : List Value} {Q2 : Option Value → Nat → AH → Prop} (hd : decode M.2.1 pc = .ok (.invokestatic index, 3)) (hM : Mt l G M2 As n h mc ms Q2) (hw : cS M.1.cls index M2 As.length) (hs0 : st0 = As.reverse ++ st) (hR : M2.2.2.2.2.1 + 1 ≤ M.2.2.2.2.1 ∧ 8 + (M2.2.2.1 + 11) + M2.2.2.2.2.2 ≤ M.2.2.2.2.2) (hst : (st.map fun v => v.category).sum ≤ 8) (hf : cells + mc ≤ rc ∧ slots + ms ≤ rs) (kk : ∀ (r : Option Value) (n2 : Nat) (h2 : AH), Q2 r n2 h2 → V l G M rc rs Fz (pc + 3) ls (r.toList ++ st) n2 h2 (cells + mc) (slots + ms)) : V l G M rc rs Fz pc ls (st0) n h cells slots := by
  intro p e s m args below meth c H locs lsA d0 hx hb hr hml hts hown hlk hnm hd0 hC hS hbs hP hl
  subst hs0
  obtain ⟨w1, w2, w3, w4, w5⟩ := hw
  exact px_callD hd0 (va_runS_D (As := As) (rest := st) ⟨hx, hb, hml, hown, dr_words hts d0⟩ hM (va_cwS As.length (dr_words hts d0) (gw_in (fun w hw => by
    simp only [va_wsS, List.cons_append, List.nil_append, List.mem_cons] at hw
    rcases hw with rfl | rfl | rfl | hw
    · exact w1
    · exact w2
    · exact w3
    · exact gw_mW w4 w hw)) rfl rfl rfl w5 hR) ⟨pcM.blind, fun U hU hW => ⟨rfl, by rw [hU]; exact cx.warm hW (cx.same (u := s) rfl (hC.kept hS.2.1)), by rw [hU]; exact Nat.le_trans hbs hS.1, by rw [hU]; exact hP⟩⟩ rfl rfl hl.1 rfl (lv_room hst) hd hf) hS (fun r n2 h2 H1 locs1 d1 hd1 hQ hP1 hS1 => kk r n2 h2 hQ p e s m args below meth c _ _ lsA d1 hx hb hr hml hts hown hlk hnm hd1 hC hS1 hbs hP1 hl)
theorem v_callI {l : Launch} {G : vG} {M : vM} {rc rs : Nat} {Fz : vFin} {pc : Nat} {ls : List (Option Value)} {st : List Value} {n : Nat} {h : AH} {cells slots : Nat} {M2 : vM} {index mc ms : Nat} {As : List Value} {st0 : List Value} {Q2 : Option Value → Nat → AH → Prop} {b : Nat} (hd : decode M.2.1 pc = .ok (.invokespecial index, 3)) (hM : Mt l G M2 (.ref b :: As) n h mc ms Q2) (hw : cI M.1.cls index M2 As.length) (hr9 : M2.2.2.2.1 = none) (hs0 : st0 = As.reverse ++ .ref b :: st) (hR : M2.2.2.2.2.1 + 1 ≤ M.2.2.2.2.1 ∧ 8 + (M2.2.2.1 + 11) + M2.2.2.2.2.2 ≤ M.2.2.2.2.2) (hst : (st.map fun v => v.category).sum ≤ 8) (hf : cells + mc ≤ rc ∧ slots + ms ≤ rs) (kk : ∀ (r : Option Value) (n2 : Nat) (h2 : AH), Q2 r n2 h2 → V l G M rc rs Fz (pc + 3) ls (r.toList ++ st) n2 h2 (cells + mc) (slots + ms)) : V l G M rc rs Fz pc ls (st0) n h cells slots := by
  intro p e s m args below meth c H locs lsA d0 hx hb hr hml hts hown hlk hnm hd0 hC hS hbs hP hl
  subst hs0
  obtain ⟨w1, w2, w3, w4, w5, w6⟩ := hw
  have hW9 : mW M2 = Cond.code M2.1 M2.2.1 M2.2.2.1 none :: gw := by rw [mW, hr9]
  exact px_callD hd0 (va_runI_D (As := As) (rest := st) ⟨hx, hb, hml, hown, dr_words hts d0⟩ hM (cwI As.length (dr_words hts d0) (gw_in (gw_mW w4)) hW9 rfl rfl (dr_words hts d0 _ w3) (dr_words hts d0 _ w1) (dr_words hts d0 _ w2) w5 w6 hR) ⟨pcM.blind, fun U hU hW => ⟨rfl, by rw [hU]; exact cx.warm hW (cx.same (u := s) rfl (hC.kept hS.2.1)), by rw [hU]; exact Nat.le_trans hbs hS.1, by rw [hU]; exact hP⟩⟩ rfl rfl hl.1 rfl (lv_room hst) hd hf) hS (fun r n2 h2 H1 locs1 d1 hd1 hQ hP1 hS1 => kk r n2 h2 hQ p e s m args below meth c _ _ lsA d1 hx hb hr hml hts hown hlk hnm hd1 hC hS1 hbs hP1 hl)
theorem v_callIN {l : Launch} {G : vG} {M : vM} {rc rs : Nat} {Fz : vFin} {pc : Nat} {ls : List (Option Value)} {st : List Value} {n : Nat} {h : AH} {cells slots : Nat} {M2 : vM} {index mc ms : Nat} {As : List Value} {st0 : List Value} {Q2 : Option Value → Nat → AH → Prop} {b : Nat} {host : String} (hd : decode M.2.1 pc = .ok (.invokespecial index, 3)) (hM : Mt l G M2 (.ref b :: As) n h mc ms Q2) (hw : cIN M.1.cls index M2 host As.length) (hr9 : M2.2.2.2.1 = none) (hs0 : st0 = As.reverse ++ .ref b :: st) (hR : M2.2.2.2.2.1 + 1 ≤ M.2.2.2.2.1 ∧ 8 + (M2.2.2.1 + 11) + M2.2.2.2.2.2 ≤ M.2.2.2.2.2) (hst : (st.map fun v => v.category).sum ≤ 8) (hf : cells + mc ≤ rc ∧ slots + ms ≤ rs) (kk : ∀ (r : Option Value) (n2 : Nat) (h2 : AH), Q2 r n2 h2 → V l G M rc rs Fz (pc + 3) ls (r.toList ++ st) n2 h2 (cells + mc) (slots + ms)) : V l G M rc rs Fz pc ls (st0) n h cells slots := by
  intro p e s m args below meth c H locs lsA d0 hx hb hr hml hts hown hlk hnm hd0 hC hS hbs hP hl
  subst hs0
  have hnest : va_Nw (.methodLinkNest M.1.cls index M2.1 host) (s.setDrawn d0) := va_Nw.same (u := s) rfl rfl (hC.nest _ hw.1)
  obtain ⟨w1, w2, w3, w4, w5, w6⟩ := hw
  have hW9 : mW M2 = Cond.code M2.1 M2.2.1 M2.2.2.1 none :: gw := by rw [mW, hr9]
  exact px_callD hd0 (va_runIN_D (host := host) (As := As) (rest := st) ⟨hx, hb, hml, hown, dr_words hts d0⟩ hM ⟨va_cnB As.length (dr_words hts d0) (gw_in (gw_mW w4)) hW9 rfl rfl hnest (dr_words hts d0 _ w3) w6 hR, w5, dr_words hts d0 _ w2⟩ ⟨pcM.blind, fun U hU hW => ⟨rfl, by rw [hU]; exact cx.warm hW (cx.same (u := s) rfl (hC.kept hS.2.1)), by rw [hU]; exact Nat.le_trans hbs hS.1, by rw [hU]; exact hP⟩⟩ rfl rfl hl.1 rfl (lv_room hst) hd hf) hS (fun r n2 h2 H1 locs1 d1 hd1 hQ hP1 hS1 => kk r n2 h2 hQ p e s m args below meth c _ _ lsA d1 hx hb hr hml hts hown hlk hnm hd1 hC hS1 hbs hP1 hl)
theorem v_callSN {l : Launch} {G : vG} {M : vM} {rc rs : Nat} {Fz : vFin} {pc : Nat} {ls : List (Option Value)} {st : List Value} {n : Nat} {h : AH} {cells slots : Nat} {M2 : vM} {index mc ms : Nat} {As : List Value} {st0 : List Value} {Q2 : Option Value → Nat → AH → Prop} {host : String} (hd : decode M.2.1 pc = .ok (.invokestatic index, 3)) (hM : Mt l G M2 As n h mc ms Q2) (hw : cSN M.1.cls index M2 host As.length) (hs0 : st0 = As.reverse ++ st) (hR : M2.2.2.2.2.1 + 1 ≤ M.2.2.2.2.1 ∧ 8 + (M2.2.2.1 + 11) + M2.2.2.2.2.2 ≤ M.2.2.2.2.2) (hst : (st.map fun v => v.category).sum ≤ 8) (hf : cells + mc ≤ rc ∧ slots + ms ≤ rs) (kk : ∀ (r : Option Value) (n2 : Nat) (h2 : AH), Q2 r n2 h2 → V l G M rc rs Fz (pc + 3) ls (r.toList ++ st) n2 h2 (cells + mc) (slots + ms)) : V l G M rc rs Fz pc ls (st0) n h cells slots := by
  intro p e s m args below meth c H locs lsA d0 hx hb hr hml hts hown hlk hnm hd0 hC hS hbs hP hl
  subst hs0
  have hnest : va_Nw (.methodLinkNest M.1.cls index M2.1 host) (s.setDrawn d0) := va_Nw.same (u := s) rfl rfl (hC.nest _ hw.1)
  obtain ⟨w1, w2, w3, w4, w6⟩ := hw
  exact px_callD hd0 (va_runSN_D (host := host) (As := As) (rest := st) ⟨hx, hb, hml, hown, dr_words hts d0⟩ hM ⟨va_cnB As.length (dr_words hts d0) (gw_in (gw_mW w4)) rfl rfl rfl hnest (dr_words hts d0 _ w3) w6 hR, dr_words hts d0 _ w2, trivial⟩ ⟨pcM.blind, fun U hU hW => ⟨rfl, by rw [hU]; exact cx.warm hW (cx.same (u := s) rfl (hC.kept hS.2.1)), by rw [hU]; exact Nat.le_trans hbs hS.1, by rw [hU]; exact hP⟩⟩ rfl rfl hl.1 rfl (lv_room hst) hd hf) hS (fun r n2 h2 H1 locs1 d1 hd1 hQ hP1 hS1 => kk r n2 h2 hQ p e s m args below meth c _ _ lsA d1 hx hb hr hml hts hown hlk hnm hd1 hC hS1 hbs hP1 hl)
theorem v_iret {l : Launch} {G : vG} {M : vM} {rc rs : Nat} {pc : Nat} {ls : List (Option Value)} {st : List Value} {n : Nat} {h : AH} {cells slots : Nat} {Q : Option Value → Nat → AH → Prop} {mc ms : Nat} {v : Int32} (hd : decode M.2.1 pc = .ok (.ireturn, 1)) (hr2 : M.2.2.2.1 = some .int) (hq : Q (some (.int v)) n h) (hc1 : cells ≤ mc) (hs1 : slots ≤ ms) : V l G M rc rs (finM G Q mc ms) pc ls [.int v] n h cells slots := by
  intro p e s m args below meth c H locs lsA d0 hx hb hr hml hts hown hlk hnm hd0 hC hS hbs hP hl
  refine W.widen hc1 hs1 (W.endD hd0 ?_)
  exact W.iret hx hb (hr.trans hr2) (fun t ht hW => ⟨⟨_, n, h, rfl, hq, by rw [ht]; exact hP⟩, hS.F ht⟩) hS.2.2 hd hlk
theorem v_zret {l : Launch} {G : vG} {M : vM} {rc rs : Nat} {pc : Nat} {ls : List (Option Value)} {st : List Value} {n : Nat} {h : AH} {cells slots : Nat} {Q : Option Value → Nat → AH → Prop} {mc ms : Nat} {v : Int32} {ty : FieldType} (hd : decode M.2.1 pc = .ok (.ireturn, 1)) (hr2 : M.2.2.2.1 = some ty) (hn9 : narrow ty (.int v) = .int v) (hq : Q (some (.int v)) n h) (hc1 : cells ≤ mc) (hs1 : slots ≤ ms) : V l G M rc rs (finM G Q mc ms) pc ls [.int v] n h cells slots := by
  intro p e s m args below meth c H locs lsA d0 hx hb hr hml hts hown hlk hnm hd0 hC hS hbs hP hl
  refine W.widen hc1 hs1 (W.endD hd0 ?_)
  exact W.zret hx hb (hr.trans hr2) hn9 (fun t ht hW => ⟨⟨_, n, h, rfl, hq, by rw [ht]; exact hP⟩, hS.F ht⟩) hS.2.2 hd hlk
theorem v_vret {l : Launch} {G : vG} {M : vM} {rc rs : Nat} {pc : Nat} {ls : List (Option Value)} {st : List Value} {n : Nat} {h : AH} {cells slots : Nat} {Q : Option Value → Nat → AH → Prop} {mc ms : Nat}  (hd : decode M.2.1 pc = .ok (.return_, 1)) (hr2 : M.2.2.2.1 = none) (hq : Q none n h) (hc1 : cells ≤ mc) (hs1 : slots ≤ ms) : V l G M rc rs (finM G Q mc ms) pc ls [] n h cells slots := by
  intro p e s m args below meth c H locs lsA d0 hx hb hr hml hts hown hlk hnm hd0 hC hS hbs hP hl
  refine W.widen hc1 hs1 (W.endD hd0 ?_)
  exact W.vret hx hb (hr.trans hr2) (fun t ht hW => ⟨⟨_, n, h, rfl, hq, by rw [ht]; exact hP⟩, hS.F ht⟩) hS.2.2 hd hlk
theorem v_aret {l : Launch} {G : vG} {M : vM} {rc rs : Nat} {pc : Nat} {ls : List (Option Value)} {st : List Value} {n : Nat} {h : AH} {cells slots : Nat} {Q : Option Value → Nat → AH → Prop} {mc ms : Nat} {v : Nat} {rt : FieldType} (hd : decode M.2.1 pc = .ok (.areturn, 1)) (hr2 : M.2.2.2.1 = some rt) (hrt : (∃ n, rt = .object n) ∨ ∃ t, rt = .array t) (hq : Q (some (.ref v)) n h) (hc1 : cells ≤ mc) (hs1 : slots ≤ ms) : V l G M rc rs (finM G Q mc ms) pc ls [.ref v] n h cells slots := by
  intro p e s m args below meth c H locs lsA d0 hx hb hr hml hts hown hlk hnm hd0 hC hS hbs hP hl
  refine W.widen hc1 hs1 (W.endD hd0 ?_)
  exact W.aret hx hb (hr.trans hr2) hrt (Or.inr ⟨_, rfl⟩) (fun t ht hW => ⟨⟨_, n, h, rfl, hq, by rw [ht]; exact hP⟩, hS.F ht⟩) hS.2.2 hd hlk
theorem v_dret {l : Launch} {G : vG} {M : vM} {rc rs : Nat} {pc : Nat} {ls : List (Option Value)} {st : List Value} {n : Nat} {h : AH} {cells slots : Nat} {Q : Option Value → Nat → AH → Prop} {mc ms : Nat} {v : UInt64} (hd : decode M.2.1 pc = .ok (.dreturn, 1)) (hr2 : M.2.2.2.1 = some .double) (hq : Q (some (.double v)) n h) (hc1 : cells ≤ mc) (hs1 : slots ≤ ms) : V l G M rc rs (finM G Q mc ms) pc ls [.double v] n h cells slots := by
  intro p e s m args below meth c H locs lsA d0 hx hb hr hml hts hown hlk hnm hd0 hC hS hbs hP hl
  refine W.widen hc1 hs1 (W.endD hd0 ?_)
  exact W.dret hx hb (hr.trans hr2) (fun t ht hW => ⟨⟨_, n, h, rfl, hq, by rw [ht]; exact hP⟩, hS.F ht⟩) hS.2.2 hd hlk
theorem v_fret {l : Launch} {G : vG} {M : vM} {rc rs : Nat} {pc : Nat} {ls : List (Option Value)} {st : List Value} {n : Nat} {h : AH} {cells slots : Nat} {Q : Option Value → Nat → AH → Prop} {mc ms : Nat} {v : UInt32} (hd : decode M.2.1 pc = .ok (.freturn, 1)) (hr2 : M.2.2.2.1 = some .float) (hq : Q (some (.float v)) n h) (hc1 : cells ≤ mc) (hs1 : slots ≤ ms) : V l G M rc rs (finM G Q mc ms) pc ls [.float v] n h cells slots := by
  intro p e s m args below meth c H locs lsA d0 hx hb hr hml hts hown hlk hnm hd0 hC hS hbs hP hl
  refine W.widen hc1 hs1 (W.endD hd0 ?_)
  exact W.fret hx hb (hr.trans hr2) (fun t ht hW => ⟨⟨_, n, h, rfl, hq, by rw [ht]; exact hP⟩, hS.F ht⟩) hS.2.2 hd hlk
end
