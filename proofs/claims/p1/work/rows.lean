section
-- ===== PART A: goes FIRST, ahead of the names: the tables' words, and 'selects' of the private methods out of them =====
/-- a private method of a class that the tables say can be made, by its rows of tables_1 -/
def lw_okq (q : MethodName × Nat) : Prop := (q.1.cls ≠ "java/lang/invoke/MethodHandle" ∧ q.1.cls ≠ "java/lang/invoke/VarHandle") ∧ Cond.instantiable q.1.cls q.2 ∈ tables_1 ∧ Cond.privateMethod q.1 ∈ tables_1 ∧ Cond.instanceMethod q.1 ∈ tables_1
theorem lw_p0 : lw_okq (⟨"NoticeStations", "requireTwoStations", "(II)V"⟩, 4) := ⟨⟨by decide +kernel, by decide +kernel⟩, List.mem_of_getElem? (i := 25) (by decide +kernel), List.mem_of_getElem? (i := 153) (by decide +kernel), List.mem_of_getElem? (i := 154) (by decide +kernel)⟩
theorem lw_p1 : lw_okq (⟨"java/lang/Throwable", "fillInStackTrace", "(I)Ljava/lang/Throwable;"⟩, 6) := ⟨⟨by decide +kernel, by decide +kernel⟩, List.mem_of_getElem? (i := 200) (by decide +kernel), List.mem_of_getElem? (i := 198) (by decide +kernel), List.mem_of_getElem? (i := 199) (by decide +kernel)⟩
theorem lw_p2 : lw_okq (⟨"NoticeStations", "stationAt", "(I)LNoticeStations$Station;"⟩, 4) := ⟨⟨by decide +kernel, by decide +kernel⟩, List.mem_of_getElem? (i := 25) (by decide +kernel), List.mem_of_getElem? (i := 240) (by decide +kernel), List.mem_of_getElem? (i := 241) (by decide +kernel)⟩
theorem lw_p3 : lw_okq (⟨"NoticeStations", "beginWrite", "(LNoticeStations$Station;I)I"⟩, 4) := ⟨⟨by decide +kernel, by decide +kernel⟩, List.mem_of_getElem? (i := 25) (by decide +kernel), List.mem_of_getElem? (i := 261) (by decide +kernel), List.mem_of_getElem? (i := 262) (by decide +kernel)⟩
theorem lw_p4 : lw_okq (⟨"NoticeStations$Station", "isFree", "()Z"⟩, 8) := ⟨⟨by decide +kernel, by decide +kernel⟩, List.mem_of_getElem? (i := 85) (by decide +kernel), List.mem_of_getElem? (i := 265) (by decide +kernel), List.mem_of_getElem? (i := 266) (by decide +kernel)⟩
theorem lw_p5 : lw_okq (⟨"NoticeStations$Station", "isInDoubt", "()Z"⟩, 8) := ⟨⟨by decide +kernel, by decide +kernel⟩, List.mem_of_getElem? (i := 85) (by decide +kernel), List.mem_of_getElem? (i := 269) (by decide +kernel), List.mem_of_getElem? (i := 270) (by decide +kernel)⟩
theorem lw_p6 : lw_okq (⟨"NoticeStations$Standing", "length", "()I"⟩, 4) := ⟨⟨by decide +kernel, by decide +kernel⟩, List.mem_of_getElem? (i := 63) (by decide +kernel), List.mem_of_getElem? (i := 289) (by decide +kernel), List.mem_of_getElem? (i := 290) (by decide +kernel)⟩
theorem lw_p7 : lw_okq (⟨"NoticeStations", "requireRoomFor", "(I)V"⟩, 4) := ⟨⟨by decide +kernel, by decide +kernel⟩, List.mem_of_getElem? (i := 25) (by decide +kernel), List.mem_of_getElem? (i := 309) (by decide +kernel), List.mem_of_getElem? (i := 310) (by decide +kernel)⟩
theorem lw_p8 : lw_okq (⟨"NoticeStations", "sendAwaited", "(LNoticeStations$Station;LNoticeStations$OpenWrite;)V"⟩, 4) := ⟨⟨by decide +kernel, by decide +kernel⟩, List.mem_of_getElem? (i := 25) (by decide +kernel), List.mem_of_getElem? (i := 343) (by decide +kernel), List.mem_of_getElem? (i := 344) (by decide +kernel)⟩
theorem lw_p9 : lw_okq (⟨"NoticeStations$OpenWrite", "awaits", "(I)Z"⟩, 5) := ⟨⟨by decide +kernel, by decide +kernel⟩, List.mem_of_getElem? (i := 314) (by decide +kernel), List.mem_of_getElem? (i := 347) (by decide +kernel), List.mem_of_getElem? (i := 348) (by decide +kernel)⟩
theorem lw_p10 : lw_okq (⟨"NoticeStations$OpenWrite", "isCollecting", "()Z"⟩, 5) := ⟨⟨by decide +kernel, by decide +kernel⟩, List.mem_of_getElem? (i := 314) (by decide +kernel), List.mem_of_getElem? (i := 351) (by decide +kernel), List.mem_of_getElem? (i := 352) (by decide +kernel)⟩
theorem lw_p11 : lw_okq (⟨"NoticeStations$OpenWrite", "isOfGroup", "(I)Z"⟩, 5) := ⟨⟨by decide +kernel, by decide +kernel⟩, List.mem_of_getElem? (i := 314) (by decide +kernel), List.mem_of_getElem? (i := 355) (by decide +kernel), List.mem_of_getElem? (i := 356) (by decide +kernel)⟩
theorem lw_p12 : lw_okq (⟨"NoticeStations", "send", "(IIIILNoticeStations$Standing;)V"⟩, 4) := ⟨⟨by decide +kernel, by decide +kernel⟩, List.mem_of_getElem? (i := 25) (by decide +kernel), List.mem_of_getElem? (i := 360) (by decide +kernel), List.mem_of_getElem? (i := 361) (by decide +kernel)⟩
theorem lw_p13 : lw_okq (⟨"java/util/ArrayList", "add", "(Ljava/lang/Object;[Ljava/lang/Object;I)V"⟩, 3) := ⟨⟨by decide +kernel, by decide +kernel⟩, List.mem_of_getElem? (i := 35) (by decide +kernel), List.mem_of_getElem? (i := 395) (by decide +kernel), List.mem_of_getElem? (i := 396) (by decide +kernel)⟩
theorem lw_p14 : lw_okq (⟨"java/util/ArrayList", "grow", "()[Ljava/lang/Object;"⟩, 3) := ⟨⟨by decide +kernel, by decide +kernel⟩, List.mem_of_getElem? (i := 35) (by decide +kernel), List.mem_of_getElem? (i := 399) (by decide +kernel), List.mem_of_getElem? (i := 400) (by decide +kernel)⟩
theorem lw_p15 : lw_okq (⟨"java/util/ArrayList", "grow", "(I)[Ljava/lang/Object;"⟩, 3) := ⟨⟨by decide +kernel, by decide +kernel⟩, List.mem_of_getElem? (i := 35) (by decide +kernel), List.mem_of_getElem? (i := 403) (by decide +kernel), List.mem_of_getElem? (i := 404) (by decide +kernel)⟩
def lw_privs_1 : List (MethodName × Nat) := [(⟨"NoticeStations", "requireTwoStations", "(II)V"⟩, 4), (⟨"java/lang/Throwable", "fillInStackTrace", "(I)Ljava/lang/Throwable;"⟩, 6), (⟨"NoticeStations", "stationAt", "(I)LNoticeStations$Station;"⟩, 4), (⟨"NoticeStations", "beginWrite", "(LNoticeStations$Station;I)I"⟩, 4), (⟨"NoticeStations$Station", "isFree", "()Z"⟩, 8), (⟨"NoticeStations$Station", "isInDoubt", "()Z"⟩, 8), (⟨"NoticeStations$Standing", "length", "()I"⟩, 4), (⟨"NoticeStations", "requireRoomFor", "(I)V"⟩, 4), (⟨"NoticeStations", "sendAwaited", "(LNoticeStations$Station;LNoticeStations$OpenWrite;)V"⟩, 4), (⟨"NoticeStations$OpenWrite", "awaits", "(I)Z"⟩, 5), (⟨"NoticeStations$OpenWrite", "isCollecting", "()Z"⟩, 5), (⟨"NoticeStations$OpenWrite", "isOfGroup", "(I)Z"⟩, 5), (⟨"NoticeStations", "send", "(IIIILNoticeStations$Standing;)V"⟩, 4), (⟨"java/util/ArrayList", "add", "(Ljava/lang/Object;[Ljava/lang/Object;I)V"⟩, 3), (⟨"java/util/ArrayList", "grow", "()[Ljava/lang/Object;"⟩, 3), (⟨"java/util/ArrayList", "grow", "(I)[Ljava/lang/Object;"⟩, 3)]
theorem lw_r1 : ∀ q ∈ lw_privs_1, lw_okq q := List.forall_mem_cons.mpr ⟨lw_p0, List.forall_mem_cons.mpr ⟨lw_p1, List.forall_mem_cons.mpr ⟨lw_p2, List.forall_mem_cons.mpr ⟨lw_p3, List.forall_mem_cons.mpr ⟨lw_p4, List.forall_mem_cons.mpr ⟨lw_p5, List.forall_mem_cons.mpr ⟨lw_p6, List.forall_mem_cons.mpr ⟨lw_p7, List.forall_mem_cons.mpr ⟨lw_p8, List.forall_mem_cons.mpr ⟨lw_p9, List.forall_mem_cons.mpr ⟨lw_p10, List.forall_mem_cons.mpr ⟨lw_p11, List.forall_mem_cons.mpr ⟨lw_p12, List.forall_mem_cons.mpr ⟨lw_p13, List.forall_mem_cons.mpr ⟨lw_p14, List.forall_mem_cons.mpr ⟨lw_p15, fun _ h => absurd h List.not_mem_nil⟩⟩⟩⟩⟩⟩⟩⟩⟩⟩⟩⟩⟩⟩⟩⟩
theorem lw_p16 : lw_okq (⟨"NoticeStations$Standing", "hasNoticeAt", "(I)Z"⟩, 4) := ⟨⟨by decide +kernel, by decide +kernel⟩, List.mem_of_getElem? (i := 63) (by decide +kernel), List.mem_of_getElem? (i := 458) (by decide +kernel), List.mem_of_getElem? (i := 459) (by decide +kernel)⟩
theorem lw_p17 : lw_okq (⟨"NoticeStations$Standing", "isWithdrawn", "(I)Z"⟩, 4) := ⟨⟨by decide +kernel, by decide +kernel⟩, List.mem_of_getElem? (i := 63) (by decide +kernel), List.mem_of_getElem? (i := 463) (by decide +kernel), List.mem_of_getElem? (i := 464) (by decide +kernel)⟩
theorem lw_p18 : lw_okq (⟨"NoticeStations$OpenWrite", "groupSize", "()I"⟩, 5) := ⟨⟨by decide +kernel, by decide +kernel⟩, List.mem_of_getElem? (i := 314) (by decide +kernel), List.mem_of_getElem? (i := 502) (by decide +kernel), List.mem_of_getElem? (i := 503) (by decide +kernel)⟩
theorem lw_p19 : lw_okq (⟨"NoticeStations$OpenWrite", "prepareFrom", "(LNoticeStations$Standing;I)V"⟩, 5) := ⟨⟨by decide +kernel, by decide +kernel⟩, List.mem_of_getElem? (i := 314) (by decide +kernel), List.mem_of_getElem? (i := 506) (by decide +kernel), List.mem_of_getElem? (i := 507) (by decide +kernel)⟩
theorem lw_p20 : lw_okq (⟨"NoticeStations$OpenWrite", "leastOfGroup", "()I"⟩, 5) := ⟨⟨by decide +kernel, by decide +kernel⟩, List.mem_of_getElem? (i := 314) (by decide +kernel), List.mem_of_getElem? (i := 511) (by decide +kernel), List.mem_of_getElem? (i := 512) (by decide +kernel)⟩
theorem lw_p21 : lw_okq (⟨"NoticeStations$Standing", "followedBy", "(IIII)LNoticeStations$Standing;"⟩, 4) := ⟨⟨by decide +kernel, by decide +kernel⟩, List.mem_of_getElem? (i := 63) (by decide +kernel), List.mem_of_getElem? (i := 515) (by decide +kernel), List.mem_of_getElem? (i := 516) (by decide +kernel)⟩
theorem lw_p22 : lw_okq (⟨"NoticeStations", "commitIfAllPrepared", "(LNoticeStations$Station;LNoticeStations$OpenWrite;)V"⟩, 4) := ⟨⟨by decide +kernel, by decide +kernel⟩, List.mem_of_getElem? (i := 25) (by decide +kernel), List.mem_of_getElem? (i := 532) (by decide +kernel), List.mem_of_getElem? (i := 533) (by decide +kernel)⟩
theorem lw_p23 : lw_okq (⟨"NoticeStations$OpenWrite", "awaited", "()I"⟩, 5) := ⟨⟨by decide +kernel, by decide +kernel⟩, List.mem_of_getElem? (i := 314) (by decide +kernel), List.mem_of_getElem? (i := 536) (by decide +kernel), List.mem_of_getElem? (i := 537) (by decide +kernel)⟩
theorem lw_p24 : lw_okq (⟨"NoticeStations$Station", "forgetWrite", "()V"⟩, 8) := ⟨⟨by decide +kernel, by decide +kernel⟩, List.mem_of_getElem? (i := 85) (by decide +kernel), List.mem_of_getElem? (i := 541) (by decide +kernel), List.mem_of_getElem? (i := 542) (by decide +kernel)⟩
theorem lw_p25 : lw_okq (⟨"NoticeStations", "openWriteOf", "(LNoticeStations$Station;)LNoticeStations$OpenWrite;"⟩, 4) := ⟨⟨by decide +kernel, by decide +kernel⟩, List.mem_of_getElem? (i := 25) (by decide +kernel), List.mem_of_getElem? (i := 553) (by decide +kernel), List.mem_of_getElem? (i := 554) (by decide +kernel)⟩
theorem lw_p26 : lw_okq (⟨"NoticeStations", "letterAt", "(I)LNoticeStations$Letter;"⟩, 4) := ⟨⟨by decide +kernel, by decide +kernel⟩, List.mem_of_getElem? (i := 25) (by decide +kernel), List.mem_of_getElem? (i := 603) (by decide +kernel), List.mem_of_getElem? (i := 604) (by decide +kernel)⟩
theorem lw_p27 : lw_okq (⟨"NoticeStations", "requireLetter", "(I)V"⟩, 4) := ⟨⟨by decide +kernel, by decide +kernel⟩, List.mem_of_getElem? (i := 25) (by decide +kernel), List.mem_of_getElem? (i := 607) (by decide +kernel), List.mem_of_getElem? (i := 608) (by decide +kernel)⟩
theorem lw_p28 : lw_okq (⟨"NoticeStations", "areInOnePiece", "(II)Z"⟩, 4) := ⟨⟨by decide +kernel, by decide +kernel⟩, List.mem_of_getElem? (i := 25) (by decide +kernel), List.mem_of_getElem? (i := 626) (by decide +kernel), List.mem_of_getElem? (i := 627) (by decide +kernel)⟩
theorem lw_p29 : lw_okq (⟨"java/util/ArrayList", "fastRemove", "([Ljava/lang/Object;I)V"⟩, 3) := ⟨⟨by decide +kernel, by decide +kernel⟩, List.mem_of_getElem? (i := 35) (by decide +kernel), List.mem_of_getElem? (i := 641) (by decide +kernel), List.mem_of_getElem? (i := 642) (by decide +kernel)⟩
theorem lw_p30 : lw_okq (⟨"NoticeStations", "take", "(LNoticeStations$Letter;LNoticeStations$Station;)V"⟩, 4) := ⟨⟨by decide +kernel, by decide +kernel⟩, List.mem_of_getElem? (i := 25) (by decide +kernel), List.mem_of_getElem? (i := 646) (by decide +kernel), List.mem_of_getElem? (i := 647) (by decide +kernel)⟩
theorem lw_p31 : lw_okq (⟨"NoticeStations", "takeLock", "(LNoticeStations$Letter;LNoticeStations$Station;)V"⟩, 4) := ⟨⟨by decide +kernel, by decide +kernel⟩, List.mem_of_getElem? (i := 25) (by decide +kernel), List.mem_of_getElem? (i := 650) (by decide +kernel), List.mem_of_getElem? (i := 651) (by decide +kernel)⟩
def lw_privs_2 : List (MethodName × Nat) := [(⟨"NoticeStations$Standing", "hasNoticeAt", "(I)Z"⟩, 4), (⟨"NoticeStations$Standing", "isWithdrawn", "(I)Z"⟩, 4), (⟨"NoticeStations$OpenWrite", "groupSize", "()I"⟩, 5), (⟨"NoticeStations$OpenWrite", "prepareFrom", "(LNoticeStations$Standing;I)V"⟩, 5), (⟨"NoticeStations$OpenWrite", "leastOfGroup", "()I"⟩, 5), (⟨"NoticeStations$Standing", "followedBy", "(IIII)LNoticeStations$Standing;"⟩, 4), (⟨"NoticeStations", "commitIfAllPrepared", "(LNoticeStations$Station;LNoticeStations$OpenWrite;)V"⟩, 4), (⟨"NoticeStations$OpenWrite", "awaited", "()I"⟩, 5), (⟨"NoticeStations$Station", "forgetWrite", "()V"⟩, 8), (⟨"NoticeStations", "openWriteOf", "(LNoticeStations$Station;)LNoticeStations$OpenWrite;"⟩, 4), (⟨"NoticeStations", "letterAt", "(I)LNoticeStations$Letter;"⟩, 4), (⟨"NoticeStations", "requireLetter", "(I)V"⟩, 4), (⟨"NoticeStations", "areInOnePiece", "(II)Z"⟩, 4), (⟨"java/util/ArrayList", "fastRemove", "([Ljava/lang/Object;I)V"⟩, 3), (⟨"NoticeStations", "take", "(LNoticeStations$Letter;LNoticeStations$Station;)V"⟩, 4), (⟨"NoticeStations", "takeLock", "(LNoticeStations$Letter;LNoticeStations$Station;)V"⟩, 4)]
theorem lw_r2 : ∀ q ∈ lw_privs_2, lw_okq q := List.forall_mem_cons.mpr ⟨lw_p16, List.forall_mem_cons.mpr ⟨lw_p17, List.forall_mem_cons.mpr ⟨lw_p18, List.forall_mem_cons.mpr ⟨lw_p19, List.forall_mem_cons.mpr ⟨lw_p20, List.forall_mem_cons.mpr ⟨lw_p21, List.forall_mem_cons.mpr ⟨lw_p22, List.forall_mem_cons.mpr ⟨lw_p23, List.forall_mem_cons.mpr ⟨lw_p24, List.forall_mem_cons.mpr ⟨lw_p25, List.forall_mem_cons.mpr ⟨lw_p26, List.forall_mem_cons.mpr ⟨lw_p27, List.forall_mem_cons.mpr ⟨lw_p28, List.forall_mem_cons.mpr ⟨lw_p29, List.forall_mem_cons.mpr ⟨lw_p30, List.forall_mem_cons.mpr ⟨lw_p31, fun _ h => absurd h List.not_mem_nil⟩⟩⟩⟩⟩⟩⟩⟩⟩⟩⟩⟩⟩⟩⟩⟩
theorem lw_p32 : lw_okq (⟨"NoticeStations", "sendBack", "(ILNoticeStations$Letter;LNoticeStations$Standing;)V"⟩, 4) := ⟨⟨by decide +kernel, by decide +kernel⟩, List.mem_of_getElem? (i := 25) (by decide +kernel), List.mem_of_getElem? (i := 654) (by decide +kernel), List.mem_of_getElem? (i := 655) (by decide +kernel)⟩
theorem lw_p33 : lw_okq (⟨"NoticeStations", "takeGrant", "(LNoticeStations$Letter;LNoticeStations$Station;)V"⟩, 4) := ⟨⟨by decide +kernel, by decide +kernel⟩, List.mem_of_getElem? (i := 25) (by decide +kernel), List.mem_of_getElem? (i := 658) (by decide +kernel), List.mem_of_getElem? (i := 659) (by decide +kernel)⟩
theorem lw_p34 : lw_okq (⟨"NoticeStations", "takePrepare", "(LNoticeStations$Letter;LNoticeStations$Station;)V"⟩, 4) := ⟨⟨by decide +kernel, by decide +kernel⟩, List.mem_of_getElem? (i := 25) (by decide +kernel), List.mem_of_getElem? (i := 662) (by decide +kernel), List.mem_of_getElem? (i := 663) (by decide +kernel)⟩
theorem lw_p35 : lw_okq (⟨"NoticeStations$Letter", "goesOnFrom", "(LNoticeStations$Standing;)Z"⟩, 5) := ⟨⟨by decide +kernel, by decide +kernel⟩, List.mem_of_getElem? (i := 364) (by decide +kernel), List.mem_of_getElem? (i := 666) (by decide +kernel), List.mem_of_getElem? (i := 667) (by decide +kernel)⟩
theorem lw_p36 : lw_okq (⟨"NoticeStations$Standing", "goesOnFrom", "(LNoticeStations$Standing;)Z"⟩, 4) := ⟨⟨by decide +kernel, by decide +kernel⟩, List.mem_of_getElem? (i := 63) (by decide +kernel), List.mem_of_getElem? (i := 670) (by decide +kernel), List.mem_of_getElem? (i := 671) (by decide +kernel)⟩
theorem lw_p37 : lw_okq (⟨"NoticeStations$Station", "isPreparedFor", "(I)Z"⟩, 8) := ⟨⟨by decide +kernel, by decide +kernel⟩, List.mem_of_getElem? (i := 85) (by decide +kernel), List.mem_of_getElem? (i := 674) (by decide +kernel), List.mem_of_getElem? (i := 675) (by decide +kernel)⟩
theorem lw_p38 : lw_okq (⟨"NoticeStations", "takePrepared", "(LNoticeStations$Letter;LNoticeStations$Station;)V"⟩, 4) := ⟨⟨by decide +kernel, by decide +kernel⟩, List.mem_of_getElem? (i := 25) (by decide +kernel), List.mem_of_getElem? (i := 678) (by decide +kernel), List.mem_of_getElem? (i := 679) (by decide +kernel)⟩
theorem lw_p39 : lw_okq (⟨"NoticeStations", "takeCommit", "(LNoticeStations$Letter;LNoticeStations$Station;)V"⟩, 4) := ⟨⟨by decide +kernel, by decide +kernel⟩, List.mem_of_getElem? (i := 25) (by decide +kernel), List.mem_of_getElem? (i := 682) (by decide +kernel), List.mem_of_getElem? (i := 683) (by decide +kernel)⟩
theorem lw_p40 : lw_okq (⟨"NoticeStations$Station", "endDoubt", "()V"⟩, 8) := ⟨⟨by decide +kernel, by decide +kernel⟩, List.mem_of_getElem? (i := 85) (by decide +kernel), List.mem_of_getElem? (i := 686) (by decide +kernel), List.mem_of_getElem? (i := 687) (by decide +kernel)⟩
theorem lw_p41 : lw_okq (⟨"NoticeStations", "takeAbort", "(LNoticeStations$Letter;LNoticeStations$Station;)V"⟩, 4) := ⟨⟨by decide +kernel, by decide +kernel⟩, List.mem_of_getElem? (i := 25) (by decide +kernel), List.mem_of_getElem? (i := 690) (by decide +kernel), List.mem_of_getElem? (i := 691) (by decide +kernel)⟩
theorem lw_p42 : lw_okq (⟨"NoticeStations", "takeAsk", "(LNoticeStations$Letter;LNoticeStations$Station;)V"⟩, 4) := ⟨⟨by decide +kernel, by decide +kernel⟩, List.mem_of_getElem? (i := 25) (by decide +kernel), List.mem_of_getElem? (i := 694) (by decide +kernel), List.mem_of_getElem? (i := 695) (by decide +kernel)⟩
theorem lw_p43 : lw_okq (⟨"NoticeStations$Standing", "hasNumber", "(I)Z"⟩, 4) := ⟨⟨by decide +kernel, by decide +kernel⟩, List.mem_of_getElem? (i := 63) (by decide +kernel), List.mem_of_getElem? (i := 698) (by decide +kernel), List.mem_of_getElem? (i := 699) (by decide +kernel)⟩
theorem lw_p44 : lw_okq (⟨"NoticeStations$Station", "hasEndedWrite", "(I)Z"⟩, 8) := ⟨⟨by decide +kernel, by decide +kernel⟩, List.mem_of_getElem? (i := 85) (by decide +kernel), List.mem_of_getElem? (i := 702) (by decide +kernel), List.mem_of_getElem? (i := 703) (by decide +kernel)⟩
theorem lw_p45 : lw_okq (⟨"NoticeStations$Letter", "bookLength", "()I"⟩, 5) := ⟨⟨by decide +kernel, by decide +kernel⟩, List.mem_of_getElem? (i := 364) (by decide +kernel), List.mem_of_getElem? (i := 706) (by decide +kernel), List.mem_of_getElem? (i := 707) (by decide +kernel)⟩
theorem lw_p46 : lw_okq (⟨"NoticeStationsModel", "begin", "(II)I"⟩, 29) := ⟨⟨by decide +kernel, by decide +kernel⟩, List.mem_of_getElem? (i := 774) (by decide +kernel), List.mem_of_getElem? (i := 883) (by decide +kernel), List.mem_of_getElem? (i := 884) (by decide +kernel)⟩
theorem lw_p47 : lw_okq (⟨"NoticeStationsModel", "isFree", "(I)Z"⟩, 29) := ⟨⟨by decide +kernel, by decide +kernel⟩, List.mem_of_getElem? (i := 774) (by decide +kernel), List.mem_of_getElem? (i := 887) (by decide +kernel), List.mem_of_getElem? (i := 888) (by decide +kernel)⟩
def lw_privs_3 : List (MethodName × Nat) := [(⟨"NoticeStations", "sendBack", "(ILNoticeStations$Letter;LNoticeStations$Standing;)V"⟩, 4), (⟨"NoticeStations", "takeGrant", "(LNoticeStations$Letter;LNoticeStations$Station;)V"⟩, 4), (⟨"NoticeStations", "takePrepare", "(LNoticeStations$Letter;LNoticeStations$Station;)V"⟩, 4), (⟨"NoticeStations$Letter", "goesOnFrom", "(LNoticeStations$Standing;)Z"⟩, 5), (⟨"NoticeStations$Standing", "goesOnFrom", "(LNoticeStations$Standing;)Z"⟩, 4), (⟨"NoticeStations$Station", "isPreparedFor", "(I)Z"⟩, 8), (⟨"NoticeStations", "takePrepared", "(LNoticeStations$Letter;LNoticeStations$Station;)V"⟩, 4), (⟨"NoticeStations", "takeCommit", "(LNoticeStations$Letter;LNoticeStations$Station;)V"⟩, 4), (⟨"NoticeStations$Station", "endDoubt", "()V"⟩, 8), (⟨"NoticeStations", "takeAbort", "(LNoticeStations$Letter;LNoticeStations$Station;)V"⟩, 4), (⟨"NoticeStations", "takeAsk", "(LNoticeStations$Letter;LNoticeStations$Station;)V"⟩, 4), (⟨"NoticeStations$Standing", "hasNumber", "(I)Z"⟩, 4), (⟨"NoticeStations$Station", "hasEndedWrite", "(I)Z"⟩, 8), (⟨"NoticeStations$Letter", "bookLength", "()I"⟩, 5), (⟨"NoticeStationsModel", "begin", "(II)I"⟩, 29), (⟨"NoticeStationsModel", "isFree", "(I)Z"⟩, 29)]
theorem lw_r3 : ∀ q ∈ lw_privs_3, lw_okq q := List.forall_mem_cons.mpr ⟨lw_p32, List.forall_mem_cons.mpr ⟨lw_p33, List.forall_mem_cons.mpr ⟨lw_p34, List.forall_mem_cons.mpr ⟨lw_p35, List.forall_mem_cons.mpr ⟨lw_p36, List.forall_mem_cons.mpr ⟨lw_p37, List.forall_mem_cons.mpr ⟨lw_p38, List.forall_mem_cons.mpr ⟨lw_p39, List.forall_mem_cons.mpr ⟨lw_p40, List.forall_mem_cons.mpr ⟨lw_p41, List.forall_mem_cons.mpr ⟨lw_p42, List.forall_mem_cons.mpr ⟨lw_p43, List.forall_mem_cons.mpr ⟨lw_p44, List.forall_mem_cons.mpr ⟨lw_p45, List.forall_mem_cons.mpr ⟨lw_p46, List.forall_mem_cons.mpr ⟨lw_p47, fun _ h => absurd h List.not_mem_nil⟩⟩⟩⟩⟩⟩⟩⟩⟩⟩⟩⟩⟩⟩⟩⟩
theorem lw_p48 : lw_okq (⟨"NoticeStationsModel", "isFull", "(I)Z"⟩, 29) := ⟨⟨by decide +kernel, by decide +kernel⟩, List.mem_of_getElem? (i := 774) (by decide +kernel), List.mem_of_getElem? (i := 891) (by decide +kernel), List.mem_of_getElem? (i := 892) (by decide +kernel)⟩
theorem lw_p49 : lw_okq (⟨"NoticeStationsModel", "sendAll", "(IIIII)V"⟩, 29) := ⟨⟨by decide +kernel, by decide +kernel⟩, List.mem_of_getElem? (i := 774) (by decide +kernel), List.mem_of_getElem? (i := 895) (by decide +kernel), List.mem_of_getElem? (i := 896) (by decide +kernel)⟩
theorem lw_p50 : lw_okq (⟨"NoticeStationsModel", "send", "(IIIII)V"⟩, 29) := ⟨⟨by decide +kernel, by decide +kernel⟩, List.mem_of_getElem? (i := 774) (by decide +kernel), List.mem_of_getElem? (i := 902) (by decide +kernel), List.mem_of_getElem? (i := 903) (by decide +kernel)⟩
theorem lw_p51 : lw_okq (⟨"NoticeStationsModel", "isNotice", "(II)Z"⟩, 29) := ⟨⟨by decide +kernel, by decide +kernel⟩, List.mem_of_getElem? (i := 774) (by decide +kernel), List.mem_of_getElem? (i := 910) (by decide +kernel), List.mem_of_getElem? (i := 911) (by decide +kernel)⟩
theorem lw_p52 : lw_okq (⟨"NoticeStationsModel", "back", "(II)I"⟩, 29) := ⟨⟨by decide +kernel, by decide +kernel⟩, List.mem_of_getElem? (i := 774) (by decide +kernel), List.mem_of_getElem? (i := 914) (by decide +kernel), List.mem_of_getElem? (i := 915) (by decide +kernel)⟩
theorem lw_p53 : lw_okq (⟨"NoticeStationsModel", "askGranted", "(I)V"⟩, 29) := ⟨⟨by decide +kernel, by decide +kernel⟩, List.mem_of_getElem? (i := 774) (by decide +kernel), List.mem_of_getElem? (i := 922) (by decide +kernel), List.mem_of_getElem? (i := 923) (by decide +kernel)⟩
theorem lw_p54 : lw_okq (⟨"NoticeStationsModel", "mayGoOn", "()Z"⟩, 29) := ⟨⟨by decide +kernel, by decide +kernel⟩, List.mem_of_getElem? (i := 774) (by decide +kernel), List.mem_of_getElem? (i := 926) (by decide +kernel), List.mem_of_getElem? (i := 927) (by decide +kernel)⟩
theorem lw_p55 : lw_okq (⟨"NoticeStationsModel", "greatest", "()I"⟩, 29) := ⟨⟨by decide +kernel, by decide +kernel⟩, List.mem_of_getElem? (i := 774) (by decide +kernel), List.mem_of_getElem? (i := 930) (by decide +kernel), List.mem_of_getElem? (i := 931) (by decide +kernel)⟩
theorem lw_p56 : lw_okq (⟨"NoticeStationsModel", "finish", "(I)V"⟩, 29) := ⟨⟨by decide +kernel, by decide +kernel⟩, List.mem_of_getElem? (i := 774) (by decide +kernel), List.mem_of_getElem? (i := 940) (by decide +kernel), List.mem_of_getElem? (i := 941) (by decide +kernel)⟩
theorem lw_p57 : lw_okq (⟨"NoticeStationsModel", "isLetter", "(I)Z"⟩, 29) := ⟨⟨by decide +kernel, by decide +kernel⟩, List.mem_of_getElem? (i := 774) (by decide +kernel), List.mem_of_getElem? (i := 976) (by decide +kernel), List.mem_of_getElem? (i := 977) (by decide +kernel)⟩
theorem lw_p58 : lw_okq (⟨"NoticeStationsModel", "isJoined", "(II)Z"⟩, 29) := ⟨⟨by decide +kernel, by decide +kernel⟩, List.mem_of_getElem? (i := 774) (by decide +kernel), List.mem_of_getElem? (i := 980) (by decide +kernel), List.mem_of_getElem? (i := 981) (by decide +kernel)⟩
theorem lw_p59 : lw_okq (⟨"NoticeStationsModel", "counts", "(I)Z"⟩, 29) := ⟨⟨by decide +kernel, by decide +kernel⟩, List.mem_of_getElem? (i := 774) (by decide +kernel), List.mem_of_getElem? (i := 984) (by decide +kernel), List.mem_of_getElem? (i := 985) (by decide +kernel)⟩
theorem lw_p60 : lw_okq (⟨"NoticeStationsModel", "remove", "(I)V"⟩, 29) := ⟨⟨by decide +kernel, by decide +kernel⟩, List.mem_of_getElem? (i := 774) (by decide +kernel), List.mem_of_getElem? (i := 988) (by decide +kernel), List.mem_of_getElem? (i := 989) (by decide +kernel)⟩
theorem lw_p61 : lw_okq (⟨"NoticeStationsModel", "work", "(IIIII)V"⟩, 29) := ⟨⟨by decide +kernel, by decide +kernel⟩, List.mem_of_getElem? (i := 774) (by decide +kernel), List.mem_of_getElem? (i := 992) (by decide +kernel), List.mem_of_getElem? (i := 993) (by decide +kernel)⟩
theorem lw_p62 : lw_okq (⟨"NoticeStationsModel", "answer", "(IIII)V"⟩, 29) := ⟨⟨by decide +kernel, by decide +kernel⟩, List.mem_of_getElem? (i := 774) (by decide +kernel), List.mem_of_getElem? (i := 996) (by decide +kernel), List.mem_of_getElem? (i := 997) (by decide +kernel)⟩
theorem lw_p63 : lw_okq (⟨"NoticeStationsModel", "contains", "(II)Z"⟩, 29) := ⟨⟨by decide +kernel, by decide +kernel⟩, List.mem_of_getElem? (i := 774) (by decide +kernel), List.mem_of_getElem? (i := 1000) (by decide +kernel), List.mem_of_getElem? (i := 1001) (by decide +kernel)⟩
def lw_privs_4 : List (MethodName × Nat) := [(⟨"NoticeStationsModel", "isFull", "(I)Z"⟩, 29), (⟨"NoticeStationsModel", "sendAll", "(IIIII)V"⟩, 29), (⟨"NoticeStationsModel", "send", "(IIIII)V"⟩, 29), (⟨"NoticeStationsModel", "isNotice", "(II)Z"⟩, 29), (⟨"NoticeStationsModel", "back", "(II)I"⟩, 29), (⟨"NoticeStationsModel", "askGranted", "(I)V"⟩, 29), (⟨"NoticeStationsModel", "mayGoOn", "()Z"⟩, 29), (⟨"NoticeStationsModel", "greatest", "()I"⟩, 29), (⟨"NoticeStationsModel", "finish", "(I)V"⟩, 29), (⟨"NoticeStationsModel", "isLetter", "(I)Z"⟩, 29), (⟨"NoticeStationsModel", "isJoined", "(II)Z"⟩, 29), (⟨"NoticeStationsModel", "counts", "(I)Z"⟩, 29), (⟨"NoticeStationsModel", "remove", "(I)V"⟩, 29), (⟨"NoticeStationsModel", "work", "(IIIII)V"⟩, 29), (⟨"NoticeStationsModel", "answer", "(IIII)V"⟩, 29), (⟨"NoticeStationsModel", "contains", "(II)Z"⟩, 29)]
theorem lw_r4 : ∀ q ∈ lw_privs_4, lw_okq q := List.forall_mem_cons.mpr ⟨lw_p48, List.forall_mem_cons.mpr ⟨lw_p49, List.forall_mem_cons.mpr ⟨lw_p50, List.forall_mem_cons.mpr ⟨lw_p51, List.forall_mem_cons.mpr ⟨lw_p52, List.forall_mem_cons.mpr ⟨lw_p53, List.forall_mem_cons.mpr ⟨lw_p54, List.forall_mem_cons.mpr ⟨lw_p55, List.forall_mem_cons.mpr ⟨lw_p56, List.forall_mem_cons.mpr ⟨lw_p57, List.forall_mem_cons.mpr ⟨lw_p58, List.forall_mem_cons.mpr ⟨lw_p59, List.forall_mem_cons.mpr ⟨lw_p60, List.forall_mem_cons.mpr ⟨lw_p61, List.forall_mem_cons.mpr ⟨lw_p62, List.forall_mem_cons.mpr ⟨lw_p63, fun _ h => absurd h List.not_mem_nil⟩⟩⟩⟩⟩⟩⟩⟩⟩⟩⟩⟩⟩⟩⟩⟩
theorem lw_p64 : lw_okq (⟨"NoticeStationsModel", "end", "(IIZ)V"⟩, 29) := ⟨⟨by decide +kernel, by decide +kernel⟩, List.mem_of_getElem? (i := 774) (by decide +kernel), List.mem_of_getElem? (i := 1004) (by decide +kernel), List.mem_of_getElem? (i := 1005) (by decide +kernel)⟩
def lw_privs_5 : List (MethodName × Nat) := [(⟨"NoticeStationsModel", "end", "(IIZ)V"⟩, 29)]
theorem lw_r5 : ∀ q ∈ lw_privs_5, lw_okq q := List.forall_mem_cons.mpr ⟨lw_p64, fun _ h => absurd h List.not_mem_nil⟩
def lw_privs : List (MethodName × Nat) := lw_privs_1 ++ (lw_privs_2 ++ (lw_privs_3 ++ (lw_privs_4 ++ (lw_privs_5))))
def lw_tbl : List Cond := k2_sels lw_privs ++ tables_1
theorem lw_privs_ok : ∀ q ∈ lw_privs, lw_okq q := by
  show ∀ q ∈ lw_privs_1 ++ (lw_privs_2 ++ (lw_privs_3 ++ (lw_privs_4 ++ (lw_privs_5)))), lw_okq q
  exact List.forall_mem_append.mpr ⟨lw_r1, List.forall_mem_append.mpr ⟨lw_r2, List.forall_mem_append.mpr ⟨lw_r3, List.forall_mem_append.mpr ⟨lw_r4, lw_r5⟩⟩⟩⟩
end
section
/-! ===== BEGIN words of one list among another's, by their places ===== -/
theorem goodIn_r {big : List Cond} (ws : List Cond) (ps : List Nat) (hp : ws = ps.filterMap (fun i => big[i]?)) (h : ws.all goodWord = true) : GoodIn big ws := by
  intro w hw
  have h1 := List.all_eq_true.mp h w hw
  rw [hp] at hw
  obtain ⟨i, -, hi⟩ := List.mem_filterMap.mp hw
  have hm : w ∈ big := by first | exact List.mem_of_getElem? hi | exact List.getElem?_mem hi
  exact ⟨hm, good_of_word h1⟩
theorem goodIn_app {big a b : List Cond} (ha : GoodIn big a) (hb : GoodIn big b) : GoodIn big (a ++ b) := fun w h => (List.mem_append.mp h).elim (ha w) (hb w)
theorem goodIn_ca {big a b : List Cond} {c : Cond} (ha : GoodIn big (c :: a)) (hb : GoodIn big b) : GoodIn big (c :: (a ++ b)) := fun w h => (List.mem_cons.mp h).elim (fun e => ha w (List.mem_cons.mpr (Or.inl e))) (fun h => (List.mem_append.mp h).elim (fun h => ha w (List.mem_cons.mpr (Or.inr h))) (hb w))
theorem goodIn_sub {big ws : List Cond} (hm : ∀ w ∈ ws, w ∈ big) (h : ws.all goodWord = true) : GoodIn big ws := fun w hw => ⟨hm w hw, good_of_word (List.all_eq_true.mp h w hw)⟩
/-! ===== END ===== -/

/-! ===== BEGIN exceptions that leave a method, and their catching by the caller (launches without stack traces) ===== -/
section VXA
/-! The laws vx_back, vx_callV, vx_callS, vx_callSW, vx_throw0, vx_throwS follow proofs of the library, with one case more: JvmDerived/Free/Laws.lean (Back.of_free), Shelf42/LK1.lean (callV, callS), Shelf/KitTraced.lean (throwNew0V, throwNewS). -/
/-- where a method has thrown q: the class by its name, the cell, what was written, the world -/
def vx_T (XC : String → State → State → Prop) (st : State) (q : Addr) (t : State) (mc ms : Nat) (free : Addr → Prop) : Prop :=
  ∃ (E : String) (ce : Cell) (L : List Loc), XC E st t ∧ t.heap[q]? = some ce ∧ ce.vm = .none ∧ st.vm.findClass E = some ce.cls ∧ st.WarmedH t.vm ∧ st.sameButNew ({ t with vm := st.vm } : State) L mc ms ∧ ∀ z ∈ L, free z.base
def vx_Q (Qc : Array Value → State → Outcome → State → Prop) (XC : String → State → State → Prop) (mc ms : Nat) (free : Addr → Prop) : Array Value → State → Outcome → State → Prop := fun a st o t =>
  (Qc a st o t ∧ ∃ L, FrameEnd st o t L mc ms ∧ ∀ q ∈ L, free q.base) ∨ ∃ q, o = .threw q ∧ vx_T XC st q t mc ms free
/-- a callee that returns or throws -/
def vx_Met (l : Launch) (y : MethodName) (ws : List Cond) (rm : Room) (Pc : Array Value → State → Prop) (Qc : Array Value → State → Outcome → State → Prop) (XC : String → State → State → Prop) (mc ms : Nat) (free : Addr → Prop) : Prop :=
  MetFree l y (headSpec ws rm) Pc (fun _ _ _ _ _ => True) (vx_Q Qc XC mc ms free)
def vx_Post (XC : String → State → State → Prop) (mc ms : Nat) (free : Addr → Prop) : Pt → Array Value → Addr → Pt → Prop := fun A a q B =>
  ∃ (g : JFrame) (mk : MethodId) (t : State) (L : List Loc) (E : String) (ce : Cell), B.U.heap = t.heap ∧ B.U.vm = t.vm ∧ XC E (A.U.calling g mk a) t ∧ t.heap[q]? = some ce ∧ ce.vm = .none ∧ A.U.vm.findClass E = some ce.cls ∧ B.locs = A.locs ++ L ∧ (∀ z ∈ L, free z.base) ∧ B.cells = A.cells + mc ∧ B.slots = A.slots + ms
def vx_Back (l : Launch) (R : Room) (p : Program) (e : Env) (below : List Frame) (s : State) (sargs : Array Value) (y : MethodName) (len W9 : Nat)
    (Pre : Pt → Array Value → Prop) (Post : Pt → Array Value → Option Value → Pt → Prop) (PostX : Pt → Array Value → Addr → Pt → Prop) : Prop :=
  ∀ (m : MethodId) (meth : Method) (c : Code) (A : Pt) (g : JFrame) (ig : Instr) (mk : MethodId) (a : Array Value),
    Stand p l e R s m sargs below meth c A.U A.locs A.cells A.slots → g.method = m → g.locals.size = c.maxLocals → decode c.code g.pc = .ok (ig, len) →
    2 * g.monitorRoom + (g.stack.map fun v => v.category).sum ≤ W9 → A.U.methodNamed? y = some mk → Pre A a →
    (∃ (v : Option Value) (B : Pt), Stand p l e R s m sargs below meth c B.U B.locs B.cells B.slots ∧ Post A a v B ∧
      Steps p.tables e below (doInvoke e (A.U.setTop g) [] mk a).1 (B.U.setTop { g with pc := g.pc + len, stack := v.toList ++ g.stack })) ∨
    (∃ (q : Addr) (B : Pt), Stand p l e R s m sargs below meth c B.U B.locs B.cells B.slots ∧ PostX A a q B ∧
      Steps p.tables e below (doInvoke e (A.U.setTop g) [] mk a).1 ((B.U.setTop g).pushFrame (.throwing q)))
section Payer
variable {l : Launch} {R : Room} {p : Program} {e : Env} {below : List Frame} {s : State} {sargs : Array Value} {y : MethodName} {len W9 : Nat}
theorem vx_back {ws : List Cond} {rm : Room} {Pc : Array Value → State → Prop} {Qc : Array Value → State → Outcome → State → Prop} {XC : String → State → State → Prop} {mc ms : Nat} {free : Addr → Prop} {bytes : ByteArray} {maxL : Nat} {ret : Option FieldType}
    (hM : vx_Met l y ws rm Pc Qc XC mc ms free) (hblind : FrameBlind Pc) (hrc : rm.cells = mc) (hrs : rm.slots = ms)
    (hframes : rm.frames + 1 ≤ R.frames) (hlocals : W9 + (maxL + 11) + rm.locals ≤ R.locals)
    (hws : ∀ w ∈ ws, ∀ a' U, s.WarmedH U.vm → w.before a' U = true) (hcode : Cond.code y bytes maxL ret ∈ ws) (hinit : ∀ a' U, s.WarmedH U.vm → (Cond.initialized y.cls).before a' U = true) :
    vx_Back l R p e below s sargs y len W9 (PreOf R mc ms Pc) (PostOf Qc mc ms free) (vx_Post XC mc ms free) := by
  intro m meth c A g ig mk a X hg hsize hdg hW hn hp
  have h1 : (headSpec ws rm).pre.before a A.U = true := atoms_intro fun w hw => hws w hw _ _ X.warmed
  have h2 : (Cond.code y bytes maxL ret).before a A.U = true := hws _ hcode _ _ X.warmed
  have h3 : (Cond.initialized y.cls).before a A.U = true := hinit _ _ X.warmed
  have h4 : A.cells + (headSpec ws rm).room.cells ≤ R.cells := by rw [show (headSpec ws rm).room.cells = mc from hrc]; exact hp.1
  have h5 : A.slots + (headSpec ws rm).room.slots ≤ R.slots := by rw [show (headSpec ws rm).room.slots = ms from hrs]; exact hp.2.1
  have hPc : Pc a (A.U.calling g mk a) := hblind _ _ _ _ hp.2.2
  obtain ⟨U, Ls, c0, s0⟩ := A
  dsimp only [Pt.U, Pt.locs, Pt.cells, Pt.slots] at h1 h2 h3 h4 h5 X hn hPc ⊢
  obtain ⟨methY, cY, hmY, hcY, -, hlY, -, -, -, -⟩ := Cond.code_spec hn h2
  obtain ⟨kY, hkY, -⟩ := className_of_methodNamed hn
  have hinitY : kY.init = .initialized := Cond.initialized_spec (findClass_of_methodNamed hn) hkY h3
  have h : At U g.method c below := by rw [hg]; exact X.here
  have hlocals9 : W9 + (maxL + 11) + (headSpec ws rm).room.locals ≤ R.locals := hlocals
  have happ : (headSpec ws rm).appliesLoose y e.platform (U.calling g mk a) = true :=
    Spec.appliesLoose_calling (g := g) h hdg hn hkY hinitY
      (X.room_calling (g := g) (R' := (headSpec ws rm).room) hsize hmY hcY hframes (by rw [hlY]; omega) h4 h5) h1
  obtain ⟨mid, hmid⟩ := h.above
  have hfr : (U.setTop g).frames = (.java g :: mid) ++ below := by rw [State.frames_setTop' g h.top, hmid]; rfl
  obtain ⟨o, s₂, hsteps, -, hend, hq⟩ := Steps.callFree hM p X.admits X.cas X.clock (acts := []) hfr happ hPc trivial
  have hq' : vx_Q Qc XC mc ms free a (U.calling g mk a) o s₂ := hq
  rw [State.frames_setTop' g h.top] at hend
  obtain ⟨g₀, hg0⟩ := Option.isSome_iff_exists.mp h.top
  obtain ⟨r, hr⟩ := State.topJava?_eq_some.mp hg0
  have hr' : (({ U with heap := s₂.heap, slotsUsed := s₂.slotsUsed } : State).setVm s₂.vm).frames = .java g₀ :: r := hr
  rcases hq' with ⟨hqc, L, hfe, hL⟩ | ⟨q, rfl, E, ce, L, hx, hce, hcv, hcl, hW₂, hsm, hL⟩
  · obtain ⟨⟨v, rfl⟩, hW₂, e2, q2, q3, q4, q5, q6⟩ := id hfe
    have e3 : s₂ = ({ (U.calling g mk a).setFrames s₂.frames with heap := s₂.heap, slotsUsed := s₂.slotsUsed } : State).setVm s₂.vm := by
      have : s₂ = ({ s₂ with vm := (U.calling g mk a).vm } : State).setVm s₂.vm := rfl
      rw [e2] at this
      exact this
    obtain ⟨c₂, i₂, len₂, hc₂, hd₂, hf₂⟩ := hend
    have hW' : U.WarmedH s₂.vm := hW₂
    have hcc : c₂ = c := by
      have h1 : s₂.code? g.method = U.code? g.method := by
        rw [State.code?_eq, State.code?_eq, hW'.alike.method?]
      exact Option.some.inj (hc₂.symm.trans (h1.trans h.code))
    subst hcc
    have hlen : len₂ = len := by rw [hdg] at hd₂; cases hd₂; rfl
    subst hlen
    have hs₂ : s₂ = (({ U with heap := s₂.heap, slotsUsed := s₂.slotsUsed } : State).setVm s₂.vm).setTop { g with pc := g.pc + len₂, stack := v.toList ++ g.stack } := by
      refine e3.trans ?_
      rw [hf₂, State.calling_eq h.top, State.setFrames_setFrames, State.setTop_of_frames _ hr', hr]
      rfl
    have hsame : U.sameButNew ({ U with heap := s₂.heap, slotsUsed := s₂.slotsUsed } : State) L mc ms := by
      refine ⟨?_, q2, q3, q4, q5, q6⟩
      obtain ⟨t, ht, -⟩ := State.frames_cons hr
      show ({ U with heap := s₂.heap, slotsUsed := s₂.slotsUsed } : State) = { U.setFrames U.frames with heap := s₂.heap, slotsUsed := s₂.slotsUsed }
      rw [State.setFrames_self ht]
    subst hg
    refine Or.inl ⟨v, ⟨(({ U with heap := s₂.heap, slotsUsed := s₂.slotsUsed } : State).setVm s₂.vm), Ls ++ L, c0 + mc, s0 + ms⟩,
      ⟨X.admits, X.cas, X.clock, X.frames, X.room, X.hears, X.method, X.code, (X.here.setHeapUsed s₂.heap s₂.slotsUsed).setVm hW'.alike, X.tail, State.WarmedH.trans X.warmed hW', X.limits, X.bytes, X.same.trans (hsame.setVm s.vm)⟩,
      ⟨g, mk, s₂, L, rfl, rfl, hqc, rfl, hL, rfl, rfl⟩, ?_⟩
    show Steps p.tables e below _ ((({ U with heap := s₂.heap, slotsUsed := s₂.slotsUsed } : State).setVm s₂.vm).setTop { g with pc := g.pc + len₂, stack := v.toList ++ g.stack })
    rw [← hs₂]
    exact hsteps
  · obtain ⟨e2, q2, q3, q4, q5, q6⟩ := id hsm
    have e3 : s₂ = ({ (U.calling g mk a).setFrames s₂.frames with heap := s₂.heap, slotsUsed := s₂.slotsUsed } : State).setVm s₂.vm := by
      have : s₂ = ({ s₂ with vm := (U.calling g mk a).vm } : State).setVm s₂.vm := rfl
      rw [e2] at this
      exact this
    have hf₂ : s₂.frames = .throwing q :: .java g :: U.frames.tail := hend
    have hW' : U.WarmedH s₂.vm := hW₂
    have hs₂ : s₂ = ((({ U with heap := s₂.heap, slotsUsed := s₂.slotsUsed } : State).setVm s₂.vm).setTop g).pushFrame (.throwing q) := by
      refine e3.trans ?_
      rw [hf₂, State.calling_eq h.top, State.setFrames_setFrames, State.pushFrame, State.frames_setTop _ hr', State.setTop_of_frames _ hr', State.setFrames_setFrames, hr]
      rfl
    have hsame : U.sameButNew ({ U with heap := s₂.heap, slotsUsed := s₂.slotsUsed } : State) L mc ms := by
      refine ⟨?_, q2, q3, q4, q5, q6⟩
      obtain ⟨t, ht, -⟩ := State.frames_cons hr
      show ({ U with heap := s₂.heap, slotsUsed := s₂.slotsUsed } : State) = { U.setFrames U.frames with heap := s₂.heap, slotsUsed := s₂.slotsUsed }
      rw [State.setFrames_self ht]
    subst hg
    refine Or.inr ⟨q, ⟨(({ U with heap := s₂.heap, slotsUsed := s₂.slotsUsed } : State).setVm s₂.vm), Ls ++ L, c0 + mc, s0 + ms⟩,
      ⟨X.admits, X.cas, X.clock, X.frames, X.room, X.hears, X.method, X.code, (X.here.setHeapUsed s₂.heap s₂.slotsUsed).setVm hW'.alike, X.tail, State.WarmedH.trans X.warmed hW', X.limits, X.bytes, X.same.trans (hsame.setVm s.vm)⟩,
      ⟨g, mk, s₂, L, E, ce, rfl, rfl, hx, hce, hcv, hcl, rfl, hL, rfl, rfl⟩, ?_⟩
    show Steps p.tables e below _ (((({ U with heap := s₂.heap, slotsUsed := s₂.slotsUsed } : State).setVm s₂.vm).setTop g).pushFrame (.throwing q))
    rw [← hs₂]
    exact hsteps
end Payer
section Calls
variable {p : Program} {l : Launch} {e : Env} {R : Room} {s : State} {m : MethodId} {args : Array Value} {below : List Frame} {meth : Method} {c : Code} {T : State} {locs : List Loc} {cells slots : Nat}
theorem vx_callV (X : Stand p l e R s m args below meth c T locs cells slots) (hexec : p.tables.exec = Jvm.exec) {own C : String} {index : Nat} {y : MethodName} {bytes : ByteArray} {maxL : Nat} {ret : Option FieldType}
    (hown : s.vm.findClass own = some m.cls) (hlink : (Cond.methodLink own index y).before args s = true) (hinst : (Cond.instanceMethod y).before args s = true) (hsel : (Cond.selects C y y).before args s = true)
    (hcode : (Cond.code y bytes maxL ret).before args s = true) (hy : y.cls ≠ "java/lang/invoke/MethodHandle" ∧ y.cls ≠ "java/lang/invoke/VarHandle")
    {W9 : Nat} {Pre : Pt → Array Value → Prop} {Post : Pt → Array Value → Option Value → Pt → Prop} {PostX : Pt → Array Value → Addr → Pt → Prop} (hK : vx_Back l R p e below s args y 3 W9 Pre Post PostX)
    {b : Addr} {cellB : Cell} (hcell : T.heap[b]? = some cellB) (hobj : cellB.vm.isStatics = false) (hcls : s.vm.findClass C = some cellB.cls)
    {g : JFrame} (hg : g.method = m) (hsize : g.locals.size = c.maxLocals) {argsL rest : List Value} (hlen : ∀ sig, parseMethodDescriptor y.desc = some sig → argsL.length = sig.parameters.length)
    (hstack : g.stack = argsL.reverse ++ .ref b :: rest) (hW : 2 * g.monitorRoom + (rest.map fun v => v.category).sum ≤ W9) (hdg : decode c.code g.pc = .ok (.invokevirtual index, 3))
    (hpre : ∀ vm₁, s.WarmedH vm₁ → Pre ⟨T.setVm vm₁, locs, cells, slots⟩ (Value.ref b :: argsL).toArray) :
    (∃ (v : Option Value) (vm₁ : Vm) (B : Pt), s.WarmedH vm₁ ∧ Stand p l e R s m args below meth c B.U B.locs B.cells B.slots ∧ Post ⟨T.setVm vm₁, locs, cells, slots⟩ (Value.ref b :: argsL).toArray v B ∧
      ∀ target, Steps p.tables e below (B.U.setTop { g with pc := g.pc + 3, stack := v.toList ++ rest }) target → Steps p.tables e below (T.setTop g) target) ∨
    (∃ (q : Addr) (vm₁ : Vm) (B : Pt), s.WarmedH vm₁ ∧ Stand p l e R s m args below meth c B.U B.locs B.cells B.slots ∧ PostX ⟨T.setVm vm₁, locs, cells, slots⟩ (Value.ref b :: argsL).toArray q B ∧
      Steps p.tables e below (T.setTop g) ((B.U.setTop { g with stack := rest }).pushFrame (.throwing q))) := by
  obtain ⟨mk, methM, hnamed, hmethM, hstM, habM⟩ := Cond.instanceMethod_spec hinst
  obtain ⟨methM', cM, hmethM', -, -, -, -, -, -, hsigM⟩ := Cond.code_spec hnamed hcode
  cases hmethM.symm.trans hmethM'
  obtain ⟨c2, r2, m2, q1, q2, q3, q4, kP, hkP, hkPi⟩ := Cond.selects_spec hsel
  cases hcls.symm.trans q1
  cases (State.methodFound?_of_named hnamed hy).symm.trans q2
  cases hnamed.symm.trans q3
  have hselP : selectMethod e.platform s.vm cellB.cls mk = .method mk := by rw [Launch.admits_selectMethod X.admits]; exact q4
  obtain ⟨vm₁, X₁, hstep₁⟩ := X.invokevirtual hexec hown hlink hnamed hmethM hstM hkP hkPi hy (a := b) (cell := cellB) hcell
    (fun z h => by rw [h] at hobj; cases hobj) hselP hmethM habM hkP hkPi (g := g) hg (argsL := argsL) (rest := rest) (hlen _ hsigM) hstack hdg
  rcases hK m meth c ⟨T.setVm vm₁, locs, cells, slots⟩ { g with stack := rest } (.invokevirtual index) mk (Value.ref b :: argsL).toArray X₁ hg hsize hdg hW (X₁.named hnamed) (hpre vm₁ X₁.warmed) with ⟨v, B, X', hpost, hsteps⟩ | ⟨q, B, X', hpost, hsteps⟩
  · exact Or.inl ⟨v, vm₁, B, X₁.warmed, X', hpost, fun target h => hstep₁ _ fun acts => by rw [doInvoke_state]; exact hsteps.trans h⟩
  · exact Or.inr ⟨q, vm₁, B, X₁.warmed, X', hpost, hstep₁ _ fun acts => by rw [doInvoke_state]; exact hsteps⟩
theorem vx_callS (X : Stand p l e R s m args below meth c T locs cells slots) (hexec : p.tables.exec = Jvm.exec) {own : String} {index : Nat} {y : MethodName} {bytes : ByteArray} {maxL : Nat} {ret : Option FieldType}
    (hown : s.vm.findClass own = some m.cls) (hlink : (Cond.methodLink own index y).before args s = true) (hstat : (Cond.static y).before args s = true) (hinit : (Cond.initialized y.cls).before args s = true)
    (hcode : (Cond.code y bytes maxL ret).before args s = true) (hy : y.cls ≠ "java/lang/invoke/MethodHandle" ∧ y.cls ≠ "java/lang/invoke/VarHandle")
    {W9 : Nat} {Pre : Pt → Array Value → Prop} {Post : Pt → Array Value → Option Value → Pt → Prop} {PostX : Pt → Array Value → Addr → Pt → Prop} (hK : vx_Back l R p e below s args y 3 W9 Pre Post PostX)
    {g : JFrame} (hg : g.method = m) (hsize : g.locals.size = c.maxLocals) {argsL rest : List Value} (hlen : ∀ sig, parseMethodDescriptor y.desc = some sig → argsL.length = sig.parameters.length)
    (hstack : g.stack = argsL.reverse ++ rest) (hW : 2 * g.monitorRoom + (rest.map fun v => v.category).sum ≤ W9) (hdg : decode c.code g.pc = .ok (.invokestatic index, 3))
    (hpre : ∀ vm₁, s.WarmedH vm₁ → Pre ⟨T.setVm vm₁, locs, cells, slots⟩ argsL.toArray) :
    (∃ (v : Option Value) (vm₁ : Vm) (B : Pt), s.WarmedH vm₁ ∧ Stand p l e R s m args below meth c B.U B.locs B.cells B.slots ∧ Post ⟨T.setVm vm₁, locs, cells, slots⟩ argsL.toArray v B ∧
      ∀ target, Steps p.tables e below (B.U.setTop { g with pc := g.pc + 3, stack := v.toList ++ rest }) target → Steps p.tables e below (T.setTop g) target) ∨
    (∃ (q : Addr) (vm₁ : Vm) (B : Pt), s.WarmedH vm₁ ∧ Stand p l e R s m args below meth c B.U B.locs B.cells B.slots ∧ PostX ⟨T.setVm vm₁, locs, cells, slots⟩ argsL.toArray q B ∧
      Steps p.tables e below (T.setTop g) ((B.U.setTop { g with stack := rest }).pushFrame (.throwing q))) := by
  obtain ⟨mk, hnamed⟩ := Cond.code_named hcode
  obtain ⟨methM, cM, hmethM, -, -, -, -, -, -, hsigM⟩ := Cond.code_spec hnamed hcode
  have hstatic : methM.isStatic = true := Cond.static_spec hnamed hmethM hstat
  obtain ⟨kP, hkP, -⟩ := className_of_methodNamed hnamed
  have hinitP : kP.init = .initialized := Cond.initialized_spec (findClass_of_methodNamed hnamed) hkP hinit
  obtain ⟨vm₁, X₁, hstep₁⟩ := X.invokestatic hexec hown hlink hnamed hmethM hstatic hkP hinitP hy (g := g) hg (argsL := argsL) (rest := rest) (hlen _ hsigM) hstack hdg
  rcases hK m meth c ⟨T.setVm vm₁, locs, cells, slots⟩ { g with stack := rest } (.invokestatic index) mk argsL.toArray X₁ hg hsize hdg hW (X₁.named hnamed) (hpre vm₁ X₁.warmed) with ⟨v, B, X', hpost, hsteps⟩ | ⟨q, B, X', hpost, hsteps⟩
  · exact Or.inl ⟨v, vm₁, B, X₁.warmed, X', hpost, fun target h => hstep₁ _ fun acts => by rw [doInvoke_state]; exact hsteps.trans h⟩
  · exact Or.inr ⟨q, vm₁, B, X₁.warmed, X', hpost, hstep₁ _ fun acts => by rw [doInvoke_state]; exact hsteps⟩
end Calls
theorem vx_cls {s : State} {T : State} {vm₁ : Vm} {E : String} {k : ClassId} (hW : s.WarmedH vm₁) (h : (T.setVm vm₁).vm.findClass E = some k) : s.vm.findClass E = some k := by
  have h1 : vm₁.findClass E = some k := h
  rw [hW.alike.findClass] at h1
  exact h1
/-- the method's frame g, with q thrown over it -/
def vx_W (p : Program) (l : Launch) (e : Env) (R : Room) (s : State) (m : MethodId) (args : Array Value) (below : List Frame) (meth : Method) (c : Code) (H : Heap) (locs : List Loc) (cells slots : Nat) (Q : State → Prop) (g : JFrame) (q : Addr) : Prop :=
  ∀ T : State, T.heap = H → Stand p l e R s m args below meth c T locs cells slots → ∃ t, Steps p.tables e below ((T.setTop g).pushFrame (.throwing q)) t ∧ Q t
def vx_Run (p : Program) (l : Launch) (e : Env) (R : Room) (s : State) (m : MethodId) (args : Array Value) (below : List Frame) (meth : Method) (c : Code) (H : Heap) (locs : List Loc) (cells slots mc ms : Nat) (g : JFrame) (rest : List Value) (Qa : State → Outcome → State → Prop) (XC : String → State → State → Prop) (free : Addr → Prop) : Prop :=
  ∀ T : State, T.heap = H → Stand p l e R s m args below meth c T locs cells slots →
    (∃ (v : Option Value) (st₀ t T' : State) (L : List Loc), st₀.heap = H ∧ Stand p l e R s m args below meth c T' (locs ++ L) (cells + mc) (slots + ms) ∧ (∀ q ∈ L, free q.base) ∧ T'.heap = t.heap ∧ T'.vm = t.vm ∧ Qa st₀ (.returned v) t ∧
      Goes p e below T g T' { g with pc := g.pc + 3, stack := v.toList ++ rest }) ∨
    (∃ (q : Addr) (st₀ t T' : State) (L : List Loc) (E : String) (ce : Cell), st₀.heap = H ∧ Stand p l e R s m args below meth c T' (locs ++ L) (cells + mc) (slots + ms) ∧ (∀ z ∈ L, free z.base) ∧ T'.heap = t.heap ∧ T'.vm = t.vm ∧ XC E st₀ t ∧ t.heap[q]? = some ce ∧ ce.vm = .none ∧ s.vm.findClass E = some ce.cls ∧
      Steps p.tables e below (T.setTop g) ((T'.setTop { g with stack := rest }).pushFrame (.throwing q)))
def vx_X {S : Type} (px : S → Prop) (B : String → S → State → Prop) (A : Nat → Prop) : String → State → State → Prop := fun E st t => ∃ u : S, px u ∧ B E u t ∧ va_F A st t
section Runs
variable {p : Program} {l : Launch} {e : Env} {R : Room} {s : State} {m : MethodId} {args : Array Value} {below : List Frame} {meth : Method} {c : Code} {H : Heap} {locs : List Loc} {cells slots : Nat}
variable {y : MethodName} {bytes cc : ByteArray} {maxL nL mc ms n index : Nat} {ret : Option FieldType} {ws : List Cond} {rm : Room} {Pc : Array Value → State → Prop} {Qc : Array Value → State → Outcome → State → Prop} {XC : String → State → State → Prop} {free : Addr → Prop} {Ts : List Cond} {own C : String} {b : Addr} {As rest : List Value} {g : JFrame}
theorem vx_callBack (cb : CallB R s args own index y bytes maxL ret ws rm mc ms n) (hM : vx_Met l y ws rm Pc Qc XC mc ms free) (hbl : FrameBlind Pc) : vx_Back l R p e below s args y 3 8 (PreOf R mc ms Pc) (PostOf Qc mc ms free) (vx_Post XC mc ms free) := by
  obtain ⟨hrc, hrs, hfr, hlo, hws, hcw, -, hini, -⟩ := cb
  exact vx_back (bytes := bytes) (maxL := maxL) (ret := ret) hM hbl hrc hrs hfr hlo hws hcw (fun a' U hW => word_at hW (Or.inl (by first | rfl | simp [Cond.onTables, Cond.keeps, Cond.steady])) hini)
theorem vx_runV (S : CallFix p m c cc nL s args Ts own) (hM : vx_Met l y ws rm Pc Qc XC mc ms free) (cw : CallW R s args own C index y bytes maxL ret ws rm mc ms n) (hp : PreV s H C b Pc As)
    (hg : g.method = m) (hn : As.length = n) (hsize : g.locals.size = nL) (hstack : g.stack = As.reverse ++ .ref b :: rest) (hW : 2 * g.monitorRoom + (rest.map fun v => v.category).sum ≤ 8) (hdg : decode cc g.pc = .ok (.invokevirtual index, 3)) (hf : cells + mc ≤ R.cells ∧ slots + ms ≤ R.slots) :
    vx_Run p l e R s m args below meth c H locs cells slots mc ms g rest (Qc (Value.ref b :: As).toArray) XC free := by
  have hK : vx_Back l R p e below s args y 3 8 (PreOf R mc ms Pc) (PostOf Qc mc ms free) (vx_Post XC mc ms free) := vx_callBack cw.1 hM hp.1
  obtain ⟨⟨-, -, -, -, -, -, hcode, -, hy, hlen, hl⟩, hin, hse⟩ := cw
  obtain ⟨hx, hb, hml, ho, -⟩ := S
  obtain ⟨-, ⟨cellB, hcB, hoB, hclB⟩, hPc⟩ := hp
  intro T hT X
  rcases vx_callV X hx (C := C) (bytes := bytes) (maxL := maxL) (ret := ret) ho hl hin hse hcode hy hK (by rw [hT]; exact hcB) hoB hclB hg (hsize.trans hml.symm) (argsL := As) (rest := rest) (fun sig h => hn.trans (hlen sig h)) hstack hW (by rw [hb]; exact hdg)
    (fun vm₁ hW₁ => ⟨hf.1, hf.2, hPc (T.setVm vm₁) hT hW₁⟩) with ⟨v, vm₁, ⟨U', l2, c2, s2⟩, hW₁, X', ⟨g', mk, t, L, e1, e2, hq, h1, hL, h2, h3⟩, st⟩ | ⟨q, vm₁, ⟨U', l2, c2, s2⟩, hW₁, X', ⟨g', mk, t, L, E, ce, e1, e2, hq, hce, hcv, hcl, h1, hL, h2, h3⟩, st⟩
  · dsimp only [Pt.U, Pt.locs, Pt.cells, Pt.slots] at X' e1 e2 h1 h2 h3 st
    subst h1; subst h2; subst h3
    exact Or.inl ⟨v, (T.setVm vm₁).calling g' mk (Value.ref b :: As).toArray, t, U', L, hT, X', hL, e1, e2, hq, st⟩
  · dsimp only [Pt.U, Pt.locs, Pt.cells, Pt.slots] at X' e1 e2 h1 h2 h3 st hcl
    subst h1; subst h2; subst h3
    exact Or.inr ⟨q, (T.setVm vm₁).calling g' mk (Value.ref b :: As).toArray, t, U', L, E, ce, hT, X', hL, e1, e2, hq, hce, hcv, vx_cls hW₁ hcl, st⟩
theorem vx_runS (S : CallFix p m c cc nL s args Ts own) (hM : vx_Met l y ws rm Pc Qc XC mc ms free) (cw : CallB R s args own index y bytes maxL ret ws rm mc ms n ∧ (Cond.static y).before args s = true) (hp : PreS s H Pc As)
    (hg : g.method = m) (hn : As.length = n) (hsize : g.locals.size = nL) (hstack : g.stack = As.reverse ++ rest) (hW : 2 * g.monitorRoom + (rest.map fun v => v.category).sum ≤ 8) (hdg : decode cc g.pc = .ok (.invokestatic index, 3)) (hf : cells + mc ≤ R.cells ∧ slots + ms ≤ R.slots) :
    vx_Run p l e R s m args below meth c H locs cells slots mc ms g rest (Qc As.toArray) XC free := by
  have hK : vx_Back l R p e below s args y 3 8 (PreOf R mc ms Pc) (PostOf Qc mc ms free) (vx_Post XC mc ms free) := vx_callBack cw.1 hM hp.1
  obtain ⟨⟨-, -, -, -, -, -, hcode, hini, hy, hlen, hl⟩, hstt⟩ := cw
  obtain ⟨hx, hb, hml, ho, -⟩ := S
  intro T hT X
  rcases vx_callS X hx (bytes := bytes) (maxL := maxL) (ret := ret) ho hl hstt hini hcode hy hK hg (hsize.trans hml.symm) (argsL := As) (rest := rest) (fun sig h => hn.trans (hlen sig h)) hstack hW (by rw [hb]; exact hdg)
    (fun vm₁ hW₁ => ⟨hf.1, hf.2, hp.2 (T.setVm vm₁) hT hW₁⟩) with ⟨v, vm₁, ⟨U', l2, c2, s2⟩, hW₁, X', ⟨g', mk, t, L, e1, e2, hq, h1, hL, h2, h3⟩, st⟩ | ⟨q, vm₁, ⟨U', l2, c2, s2⟩, hW₁, X', ⟨g', mk, t, L, E, ce, e1, e2, hq, hce, hcv, hcl, h1, hL, h2, h3⟩, st⟩
  · dsimp only [Pt.U, Pt.locs, Pt.cells, Pt.slots] at X' e1 e2 h1 h2 h3 st
    subst h1; subst h2; subst h3
    exact Or.inl ⟨v, (T.setVm vm₁).calling g' mk As.toArray, t, U', L, hT, X', hL, e1, e2, hq, st⟩
  · dsimp only [Pt.U, Pt.locs, Pt.cells, Pt.slots] at X' e1 e2 h1 h2 h3 st hcl
    subst h1; subst h2; subst h3
    exact Or.inr ⟨q, (T.setVm vm₁).calling g' mk As.toArray, t, U', L, E, ce, hT, X', hL, e1, e2, hq, hce, hcv, vx_cls hW₁ hcl, st⟩
end Runs
section Rows
variable {p : Program} {l : Launch} {e : Env} {R : Room} {s : State} {m : MethodId} {args : Array Value} {below : List Frame} {meth : Method} {c : Code} {H : Heap} {locs : List Loc} {cells slots : Nat} {Q : State → Prop}
variable {mc ms : Nat} {free : Addr → Prop} {A0 A1 : Nat → Prop} {H0 : Heap} {a : Array Value} {pc : Nat} {ls : Array Slot} {st0 rest : List Value}
theorem vx_keep {st₀ t T' : State} {L : List Loc} (h0 : st₀.heap = H) (e1 : T'.heap = t.heap) (hS : va_S A0 H0 H locs) (hA : ∀ q, q < H.size → A1 q → A0 q) (hf : ∀ q, free q → A0 q) (hL : ∀ q ∈ L, free q.base) (hF : va_F A1 st₀ t) :
    H.size ≤ T'.heap.size ∧ (∀ q : Nat, q < H.size → ¬ A1 q → T'.heap[q]? = H[q]?) ∧ va_S A0 H0 T'.heap (locs ++ L) := by
  obtain ⟨hz, hk⟩ := hF
  rw [h0] at hz hk
  exact ⟨by rw [e1]; exact hz, fun q h1 h2 => by rw [e1]; exact hk q h1 h2,
    ⟨Nat.le_trans hS.1 (by rw [e1]; exact hz), fun q h1 h2 => by rw [e1, hk q (Nat.lt_of_lt_of_le h1 hS.1) (fun z => h2 (hA q (Nat.lt_of_lt_of_le h1 hS.1) z))]; exact hS.2.1 q h1 h2, fun q hq => by
      rcases List.mem_append.mp hq with h | h
      · exact hS.2.2 q h
      · exact hf _ (hL q h)⟩⟩
theorem vx_calli {S SX : Type} {post : Int32 → S → Prop} {px : SX → Prop} {B : S → State → Prop} {BX : String → SX → State → Prop} {AX : Nat → Prop} (hr : vx_Run p l e R s m args below meth c H locs cells slots mc ms (F0 m pc ls st0) rest (va_Qi post B A1 a) (vx_X px BX AX) free) (hS : va_S A0 H0 H locs) (hA : ∀ q, q < H.size → A1 q → A0 q) (hf : ∀ q, free q → A0 q) (hAX : ∀ q, q < H.size → AX q → A0 q)
    (kx : ∀ (E : String) (ce : Cell) (q9 : Addr) (u : SX) (t : State) (H1 : Heap) (locs1 : List Loc), t.heap = H1 → s.vm.Alike t.vm → px u → BX E u t → H.size ≤ H1.size → (∀ q : Nat, q < H.size → ¬ AX q → H1[q]? = H[q]?) → va_S A0 H0 H1 locs1 → H1[q9]? = some ce → ce.vm = .none → s.vm.findClass E = some ce.cls → vx_W p l e R s m args below meth c H1 locs1 (cells + mc) (slots + ms) Q (F0 m pc ls rest) q9)
    (kk : ∀ (r : Int32) (u : S) (t : State) (H1 : Heap) (locs1 : List Loc), t.heap = H1 → s.vm.Alike t.vm → post r u → B u t → H.size ≤ H1.size → (∀ q : Nat, q < H.size → ¬ A1 q → H1[q]? = H[q]?) → va_S A0 H0 H1 locs1 → W p l e R s m args below meth c H1 locs1 (cells + mc) (slots + ms) Q (F0 m (pc + 3) ls (.int r :: rest))) : W p l e R s m args below meth c H locs cells slots Q (F0 m pc ls st0) := by
  intro T hT X
  rcases hr T hT X with ⟨v, st₀, t, T', L, h0, X', hL, e1, e2, ⟨⟨r, u, hv, hp, hb⟩, hF⟩, st⟩ | ⟨q, st₀, t, T', L, E, ce, h0, X', hL, e1, e2, ⟨u, hp, hb, hF⟩, hce, hcv, hcl, st⟩
  · cases hv
    obtain ⟨k1, k2, k3⟩ := vx_keep h0 e1 hS hA hf hL hF
    obtain ⟨t2, a1, b1⟩ := kk r u t T'.heap (locs ++ L) e1.symm (by rw [← e2]; exact X'.warmed.alike) hp hb k1 k2 k3 T' rfl X'
    exact ⟨t2, st t2 a1, b1⟩
  · obtain ⟨k1, k2, k3⟩ := vx_keep h0 e1 hS hAX hf hL hF
    obtain ⟨t2, a1, b1⟩ := kx E ce q u t T'.heap (locs ++ L) e1.symm (by rw [← e2]; exact X'.warmed.alike) hp hb k1 k2 k3 (by rw [e1]; exact hce) hcv hcl T' rfl X'
    exact ⟨t2, st.trans a1, b1⟩
theorem vx_calll {S SX : Type} {post : Int64 → S → Prop} {px : SX → Prop} {B : S → State → Prop} {BX : String → SX → State → Prop} {AX : Nat → Prop} (hr : vx_Run p l e R s m args below meth c H locs cells slots mc ms (F0 m pc ls st0) rest (va_Ql post B A1 a) (vx_X px BX AX) free) (hS : va_S A0 H0 H locs) (hA : ∀ q, q < H.size → A1 q → A0 q) (hf : ∀ q, free q → A0 q) (hAX : ∀ q, q < H.size → AX q → A0 q)
    (kx : ∀ (E : String) (ce : Cell) (q9 : Addr) (u : SX) (t : State) (H1 : Heap) (locs1 : List Loc), t.heap = H1 → s.vm.Alike t.vm → px u → BX E u t → H.size ≤ H1.size → (∀ q : Nat, q < H.size → ¬ AX q → H1[q]? = H[q]?) → va_S A0 H0 H1 locs1 → H1[q9]? = some ce → ce.vm = .none → s.vm.findClass E = some ce.cls → vx_W p l e R s m args below meth c H1 locs1 (cells + mc) (slots + ms) Q (F0 m pc ls rest) q9)
    (kk : ∀ (r : Int64) (u : S) (t : State) (H1 : Heap) (locs1 : List Loc), t.heap = H1 → s.vm.Alike t.vm → post r u → B u t → H.size ≤ H1.size → (∀ q : Nat, q < H.size → ¬ A1 q → H1[q]? = H[q]?) → va_S A0 H0 H1 locs1 → W p l e R s m args below meth c H1 locs1 (cells + mc) (slots + ms) Q (F0 m (pc + 3) ls (.long r :: rest))) : W p l e R s m args below meth c H locs cells slots Q (F0 m pc ls st0) := by
  intro T hT X
  rcases hr T hT X with ⟨v, st₀, t, T', L, h0, X', hL, e1, e2, ⟨⟨r, u, hv, hp, hb⟩, hF⟩, st⟩ | ⟨q, st₀, t, T', L, E, ce, h0, X', hL, e1, e2, ⟨u, hp, hb, hF⟩, hce, hcv, hcl, st⟩
  · cases hv
    obtain ⟨k1, k2, k3⟩ := vx_keep h0 e1 hS hA hf hL hF
    obtain ⟨t2, a1, b1⟩ := kk r u t T'.heap (locs ++ L) e1.symm (by rw [← e2]; exact X'.warmed.alike) hp hb k1 k2 k3 T' rfl X'
    exact ⟨t2, st t2 a1, b1⟩
  · obtain ⟨k1, k2, k3⟩ := vx_keep h0 e1 hS hAX hf hL hF
    obtain ⟨t2, a1, b1⟩ := kx E ce q u t T'.heap (locs ++ L) e1.symm (by rw [← e2]; exact X'.warmed.alike) hp hb k1 k2 k3 (by rw [e1]; exact hce) hcv hcl T' rfl X'
    exact ⟨t2, st.trans a1, b1⟩
theorem vx_callf {S SX : Type} {post : UInt32 → S → Prop} {px : SX → Prop} {B : S → State → Prop} {BX : String → SX → State → Prop} {AX : Nat → Prop} (hr : vx_Run p l e R s m args below meth c H locs cells slots mc ms (F0 m pc ls st0) rest (va_Qf post B A1 a) (vx_X px BX AX) free) (hS : va_S A0 H0 H locs) (hA : ∀ q, q < H.size → A1 q → A0 q) (hf : ∀ q, free q → A0 q) (hAX : ∀ q, q < H.size → AX q → A0 q)
    (kx : ∀ (E : String) (ce : Cell) (q9 : Addr) (u : SX) (t : State) (H1 : Heap) (locs1 : List Loc), t.heap = H1 → s.vm.Alike t.vm → px u → BX E u t → H.size ≤ H1.size → (∀ q : Nat, q < H.size → ¬ AX q → H1[q]? = H[q]?) → va_S A0 H0 H1 locs1 → H1[q9]? = some ce → ce.vm = .none → s.vm.findClass E = some ce.cls → vx_W p l e R s m args below meth c H1 locs1 (cells + mc) (slots + ms) Q (F0 m pc ls rest) q9)
    (kk : ∀ (r : UInt32) (u : S) (t : State) (H1 : Heap) (locs1 : List Loc), t.heap = H1 → s.vm.Alike t.vm → post r u → B u t → H.size ≤ H1.size → (∀ q : Nat, q < H.size → ¬ A1 q → H1[q]? = H[q]?) → va_S A0 H0 H1 locs1 → W p l e R s m args below meth c H1 locs1 (cells + mc) (slots + ms) Q (F0 m (pc + 3) ls (.float r :: rest))) : W p l e R s m args below meth c H locs cells slots Q (F0 m pc ls st0) := by
  intro T hT X
  rcases hr T hT X with ⟨v, st₀, t, T', L, h0, X', hL, e1, e2, ⟨⟨r, u, hv, hp, hb⟩, hF⟩, st⟩ | ⟨q, st₀, t, T', L, E, ce, h0, X', hL, e1, e2, ⟨u, hp, hb, hF⟩, hce, hcv, hcl, st⟩
  · cases hv
    obtain ⟨k1, k2, k3⟩ := vx_keep h0 e1 hS hA hf hL hF
    obtain ⟨t2, a1, b1⟩ := kk r u t T'.heap (locs ++ L) e1.symm (by rw [← e2]; exact X'.warmed.alike) hp hb k1 k2 k3 T' rfl X'
    exact ⟨t2, st t2 a1, b1⟩
  · obtain ⟨k1, k2, k3⟩ := vx_keep h0 e1 hS hAX hf hL hF
    obtain ⟨t2, a1, b1⟩ := kx E ce q u t T'.heap (locs ++ L) e1.symm (by rw [← e2]; exact X'.warmed.alike) hp hb k1 k2 k3 (by rw [e1]; exact hce) hcv hcl T' rfl X'
    exact ⟨t2, st.trans a1, b1⟩
theorem vx_calld {S SX : Type} {post : UInt64 → S → Prop} {px : SX → Prop} {B : S → State → Prop} {BX : String → SX → State → Prop} {AX : Nat → Prop} (hr : vx_Run p l e R s m args below meth c H locs cells slots mc ms (F0 m pc ls st0) rest (va_Qd post B A1 a) (vx_X px BX AX) free) (hS : va_S A0 H0 H locs) (hA : ∀ q, q < H.size → A1 q → A0 q) (hf : ∀ q, free q → A0 q) (hAX : ∀ q, q < H.size → AX q → A0 q)
    (kx : ∀ (E : String) (ce : Cell) (q9 : Addr) (u : SX) (t : State) (H1 : Heap) (locs1 : List Loc), t.heap = H1 → s.vm.Alike t.vm → px u → BX E u t → H.size ≤ H1.size → (∀ q : Nat, q < H.size → ¬ AX q → H1[q]? = H[q]?) → va_S A0 H0 H1 locs1 → H1[q9]? = some ce → ce.vm = .none → s.vm.findClass E = some ce.cls → vx_W p l e R s m args below meth c H1 locs1 (cells + mc) (slots + ms) Q (F0 m pc ls rest) q9)
    (kk : ∀ (r : UInt64) (u : S) (t : State) (H1 : Heap) (locs1 : List Loc), t.heap = H1 → s.vm.Alike t.vm → post r u → B u t → H.size ≤ H1.size → (∀ q : Nat, q < H.size → ¬ A1 q → H1[q]? = H[q]?) → va_S A0 H0 H1 locs1 → W p l e R s m args below meth c H1 locs1 (cells + mc) (slots + ms) Q (F0 m (pc + 3) ls (.double r :: rest))) : W p l e R s m args below meth c H locs cells slots Q (F0 m pc ls st0) := by
  intro T hT X
  rcases hr T hT X with ⟨v, st₀, t, T', L, h0, X', hL, e1, e2, ⟨⟨r, u, hv, hp, hb⟩, hF⟩, st⟩ | ⟨q, st₀, t, T', L, E, ce, h0, X', hL, e1, e2, ⟨u, hp, hb, hF⟩, hce, hcv, hcl, st⟩
  · cases hv
    obtain ⟨k1, k2, k3⟩ := vx_keep h0 e1 hS hA hf hL hF
    obtain ⟨t2, a1, b1⟩ := kk r u t T'.heap (locs ++ L) e1.symm (by rw [← e2]; exact X'.warmed.alike) hp hb k1 k2 k3 T' rfl X'
    exact ⟨t2, st t2 a1, b1⟩
  · obtain ⟨k1, k2, k3⟩ := vx_keep h0 e1 hS hAX hf hL hF
    obtain ⟨t2, a1, b1⟩ := kx E ce q u t T'.heap (locs ++ L) e1.symm (by rw [← e2]; exact X'.warmed.alike) hp hb k1 k2 k3 (by rw [e1]; exact hce) hcv hcl T' rfl X'
    exact ⟨t2, st.trans a1, b1⟩
theorem vx_callv {S SX : Type} {post : S → Prop} {px : SX → Prop} {B : S → State → Prop} {BX : String → SX → State → Prop} {AX : Nat → Prop} (hr : vx_Run p l e R s m args below meth c H locs cells slots mc ms (F0 m pc ls st0) rest (va_Qv post B A1 a) (vx_X px BX AX) free) (hS : va_S A0 H0 H locs) (hA : ∀ q, q < H.size → A1 q → A0 q) (hf : ∀ q, free q → A0 q) (hAX : ∀ q, q < H.size → AX q → A0 q)
    (kx : ∀ (E : String) (ce : Cell) (q9 : Addr) (u : SX) (t : State) (H1 : Heap) (locs1 : List Loc), t.heap = H1 → s.vm.Alike t.vm → px u → BX E u t → H.size ≤ H1.size → (∀ q : Nat, q < H.size → ¬ AX q → H1[q]? = H[q]?) → va_S A0 H0 H1 locs1 → H1[q9]? = some ce → ce.vm = .none → s.vm.findClass E = some ce.cls → vx_W p l e R s m args below meth c H1 locs1 (cells + mc) (slots + ms) Q (F0 m pc ls rest) q9)
    (kk : ∀ (u : S) (t : State) (H1 : Heap) (locs1 : List Loc), t.heap = H1 → s.vm.Alike t.vm → post u → B u t → H.size ≤ H1.size → (∀ q : Nat, q < H.size → ¬ A1 q → H1[q]? = H[q]?) → va_S A0 H0 H1 locs1 → W p l e R s m args below meth c H1 locs1 (cells + mc) (slots + ms) Q (F0 m (pc + 3) ls (rest))) : W p l e R s m args below meth c H locs cells slots Q (F0 m pc ls st0) := by
  intro T hT X
  rcases hr T hT X with ⟨v, st₀, t, T', L, h0, X', hL, e1, e2, ⟨⟨u, hv, hp, hb⟩, hF⟩, st⟩ | ⟨q, st₀, t, T', L, E, ce, h0, X', hL, e1, e2, ⟨u, hp, hb, hF⟩, hce, hcv, hcl, st⟩
  · cases hv
    obtain ⟨k1, k2, k3⟩ := vx_keep h0 e1 hS hA hf hL hF
    obtain ⟨t2, a1, b1⟩ := kk u t T'.heap (locs ++ L) e1.symm (by rw [← e2]; exact X'.warmed.alike) hp hb k1 k2 k3 T' rfl X'
    exact ⟨t2, st t2 a1, b1⟩
  · obtain ⟨k1, k2, k3⟩ := vx_keep h0 e1 hS hAX hf hL hF
    obtain ⟨t2, a1, b1⟩ := kx E ce q u t T'.heap (locs ++ L) e1.symm (by rw [← e2]; exact X'.warmed.alike) hp hb k1 k2 k3 (by rw [e1]; exact hce) hcv hcl T' rfl X'
    exact ⟨t2, st.trans a1, b1⟩
end Rows
section Ends
variable {p : Program} {l : Launch} {e : Env} {R : Room} {s : State} {m : MethodId} {args : Array Value} {below : List Frame} {meth : Method} {c : Code} {H : Heap} {locs : List Loc} {cells slots : Nat} {Q : State → Prop}
variable {mc ms : Nat} {free : Addr → Prop} {A0 A1 : Nat → Prop} {H0 : Heap} {a : Array Value} {ls : Array Slot} {st0 rest : List Value}
variable {Qc : Array Value → State → Outcome → State → Prop} {XC : String → State → State → Prop}
/-- what a body that may throw owes at its end -/
def vx_MQ (below : List Frame) (Qc : Array Value → State → Outcome → State → Prop) (XC : String → State → State → Prop) (a : Array Value) (s : State) (mc ms : Nat) (free : Addr → Prop) : State → Prop := fun t =>
  ∃ o, t.status = .running ∧ Ended t below o ∧ vx_Q Qc XC mc ms free a s o t
theorem vx_ret {g : JFrame} {mc ms : Nat} (k : W p l e R s m args below meth c H locs cells slots (MQ below Qc args s mc ms free) g) : W p l e R s m args below meth c H locs cells slots (vx_MQ below Qc XC args s mc ms free) g := by
  intro T hT X
  obtain ⟨t, a1, o, b1, b2, b3, b4⟩ := k T hT X
  exact ⟨t, a1, o, b1, b2, Or.inl ⟨b3, b4⟩⟩
/-- not caught here: it goes on to the caller -/
theorem vx_widen {g : JFrame} {q : Addr} {k n : Nat} (h1 : cells ≤ k) (h2 : slots ≤ n) (kk : vx_W p l e R s m args below meth c H locs k n Q g q) : vx_W p l e R s m args below meth c H locs cells slots Q g q := fun T hT X => kk T hT (stand_widen X h1 h2)
theorem vx_out {pc : Nat} {E : String} {ce : Cell} {q : Addr} {mc ms : Nat} (hout : ∀ x ∈ c.exceptionTable.toList, covers x pc = false) (hlocks : meth.locks = false) (hcell : H[q]? = some ce) (hv : ce.vm = .none) (hcl : s.vm.findClass E = some ce.cls)
    (hx : ∀ t : State, t.heap = H → s.vm.Alike t.vm → XC E s t) (hf : ∀ z ∈ locs, free z.base) (hc : cells ≤ mc) (hs : slots ≤ ms) :
    vx_W p l e R s m args below meth c H locs cells slots (vx_MQ below Qc XC args s mc ms free) (F0 m pc ls rest) q := by
  intro T hT X
  obtain ⟨st1, hrun, hend, hW, hsm⟩ := X.leaveThrown q (g := F0 m pc ls rest) rfl rfl rfl hout hlocks
  have hcell9 : (T.setFrames (.throwing q :: below)).heap[q]? = some ce := by
    show T.heap[q]? = some ce
    rw [hT]; exact hcell
  exact ⟨_, st1, .threw q, hrun, hend, Or.inr ⟨q, rfl, E, ce, locs, hx _ hT hW.alike, hcell9, hv, hcl, hW, hsm.mono hc hs, hf⟩⟩
theorem vx_frame {U : State} {k n : Nat} (h : s.sameButNew ({ U with vm := s.vm } : State) locs k n) : s.heap.size ≤ U.heap.size ∧ ∀ q : Nat, q < s.heap.size → (∀ z ∈ locs, z.base ≠ q) → U.heap[q]? = s.heap[q]? := by
  obtain ⟨-, h2, -, -, -, h6⟩ := h
  refine ⟨h2, fun q hq hz => ?_⟩
  obtain ⟨c9, e1, e2, e3, e4⟩ := h6 q _ (Array.getElem?_eq_getElem hq)
  have hs : c9.slots = (s.heap[q]).slots := Array.ext_getElem? fun i => e4 i fun hm => hz _ hm rfl
  have h9 : c9 = s.heap[q] := by
    rw [hs] at e2
    exact e2
  have e5 : U.heap[q]? = some c9 := e1
  rw [e5, h9, Array.getElem?_eq_getElem hq]
/-- the words of a throw but the four that speak of the heap -/
def vx_no (w : Cond) : Bool := decide (w ≠ .isRef (.static Bundle.tN "UNASSIGNED_STACK" Bundle.steD)) && decide (w ≠ .isRef (.static Bundle.tN "SUPPRESSED_SENTINEL" Bundle.listD)) && decide (w ≠ .laysStatic Bundle.tN "UNASSIGNED_STACK" Bundle.steD) && decide (w ≠ .laysStatic Bundle.tN "SUPPRESSED_SENTINEL" Bundle.listD)
def vx_at0 (own : String) (ic : Nat) (X : String) (names : List String) : List Cond := (Bundle.ownAtoms0 own ic X names).filter vx_no
def vx_atS (own : String) (ic : Nat) (X : String) (names : List String) : List Cond := (Bundle.ownAtoms own ic X names).filter vx_no
/-- a word that the tables alone decide, or a good one -/
def vx_ot (w : Cond) : Bool := w.onTables || goodWord w
theorem vx_ot_at {args a' : Array Value} {s U : State} {w : Cond} (hW : s.WarmedH U.vm) (hvm : s.vm = U.vm) (hg : vx_ot w = true) (h : w.before args s = true) : w.before a' U = true := by
  simp only [vx_ot, Bool.or_eq_true] at hg
  rcases hg with hg | hg
  · exact va_tabs hg hvm h
  · exact word_at hW (good_of_word hg) h
/-- a list's words: the good ones out of the method's own list, the others by premises of their own -/
theorem vx_hat {args : Array Value} {s : State} {L B : List Cond} (h1 : ∀ w ∈ L.filter goodWord, w.before args s = true) (h2 : ∀ w ∈ L.filter (fun w => !goodWord w), w ∈ B) (h3 : ∀ w ∈ B, w.before args s = true) : ∀ w ∈ L, w.before args s = true := by
  intro w hw
  by_cases g : goodWord w = true
  · exact h1 w (List.mem_filter.mpr ⟨hw, g⟩)
  · refine h3 w (h2 w (List.mem_filter.mpr ⟨hw, ?_⟩))
    show (!goodWord w) = true
    cases hgw : goodWord w
    · rfl
    · exact absurd hgw g
theorem vx_c {args : Array Value} {s : State} {w : Cond} {B : List Cond} (h : w.before args s = true) (t : ∀ w ∈ B, w.before args s = true) : ∀ w' ∈ w :: B, w'.before args s = true := fun w' h' => (List.mem_cons.mp h').elim (fun e => by rw [e]; exact h) (t w')
theorem vx_n {args : Array Value} {s : State} : ∀ w ∈ ([] : List Cond), w.before args s = true := fun _ h => nomatch h
theorem vx_own {args : Array Value} {s : State} {L : List Cond} (h1 : ∀ w ∈ L.filter vx_no, w.before args s = true)
    (hU : (Cond.isRef (.static Bundle.tN "UNASSIGNED_STACK" Bundle.steD)).before args s = true) (hN : (Cond.isRef (.static Bundle.tN "SUPPRESSED_SENTINEL" Bundle.listD)).before args s = true)
    (lU : (Cond.laysStatic Bundle.tN "UNASSIGNED_STACK" Bundle.steD).before args s = true) (lN : (Cond.laysStatic Bundle.tN "SUPPRESSED_SENTINEL" Bundle.listD).before args s = true) : ∀ w ∈ L, w.before args s = true := by
  intro w hw
  by_cases e1 : w = .isRef (.static Bundle.tN "UNASSIGNED_STACK" Bundle.steD)
  · rw [e1]; exact hU
  · by_cases e2 : w = .isRef (.static Bundle.tN "SUPPRESSED_SENTINEL" Bundle.listD)
    · rw [e2]; exact hN
    · by_cases e3 : w = .laysStatic Bundle.tN "UNASSIGNED_STACK" Bundle.steD
      · rw [e3]; exact lU
      · by_cases e4 : w = .laysStatic Bundle.tN "SUPPRESSED_SENTINEL" Bundle.listD
        · rw [e4]; exact lN
        · exact h1 w (List.mem_filter.mpr ⟨hw, by unfold vx_no; rw [decide_eq_true e1, decide_eq_true e2, decide_eq_true e3, decide_eq_true e4]; rfl⟩)
/-- where a static field lies, its class's statics cell in H -/
def vx_L (C n d : String) (A : Nat → Prop) (U : State) (H : Heap) : Prop := ∃ (c : ClassId) (k : Class) (i : Nat) (f : Field) (a : Nat) (cell : Cell), U.vm.findClass C = some c ∧ U.fieldFound? C n d = some (c, k, i, f) ∧ f.isStatic = true ∧ k.statics = some a ∧ H[a]? = some cell ∧ cell.vm.isStatics = true ∧ cell.cls = c ∧ f.slot < cell.slots.size ∧ k.staticTypes[f.slot]? = some f.type ∧ ¬ A a
theorem vx_L.moved {C n d : String} {A : Nat → Prop} {u U : State} {H : Heap} (hvm : u.vm.Alike U.vm) (h : vx_L C n d A u H) : vx_L C n d A U H := by
  obtain ⟨c, k, i, f, a, cell, h1, h2, h3, h4, h5, h6, h7, h8, h9, h10⟩ := h
  obtain ⟨k', hi', he⟩ := State.fieldFound?_setVm hvm h2
  exact ⟨c, k', i, f, a, cell, by rw [hvm.findClass]; exact h1, hi', h3, by rw [he]; exact h4, h5, h6, h7, h8, by rw [he]; exact h9, h10⟩
theorem vx_L.kept {C n d : String} {A : Nat → Prop} {U : State} {H H1 : Heap} (h : vx_L C n d A U H) (hq : ∀ a : Nat, a < H.size → ¬ A a → H1[a]? = H[a]?) : vx_L C n d A U H1 := by
  obtain ⟨c, k, i, f, a, cell, h1, h2, h3, h4, h5, h6, h7, h8, h9, h10⟩ := h
  exact ⟨c, k, i, f, a, cell, h1, h2, h3, h4, by rw [hq a (Array.getElem?_eq_some_iff.mp h5).1 h10]; exact h5, h6, h7, h8, h9, h10⟩
theorem vx_L.narrow {C n d : String} {A B : Nat → Prop} {U : State} {H : Heap} (h : vx_L C n d A U H) (hAB : ∀ q, B q → A q) : vx_L C n d B U H := by
  obtain ⟨c, k, i, f, a, cell, h1, h2, h3, h4, h5, h6, h7, h8, h9, h10⟩ := h
  exact ⟨c, k, i, f, a, cell, h1, h2, h3, h4, h5, h6, h7, h8, h9, fun z => h10 (hAB _ z)⟩
theorem vx_L.word {C n d : String} {A : Nat → Prop} {s : State} {args : Array Value} (h : vx_L C n d A s s.heap) : (Cond.laysStatic C n d).before args s = true := by
  obtain ⟨c, k, i, f, a, cell, h1, h2, h3, h4, h5, h6, h7, h8, h9, -⟩ := h
  show (Cond.laysStatic C n d).holds args s none s [] = true
  exact Cond.laysStatic_of h1 h2 h3 h4 h5 h6 h7 h8 h9
/-- .. and what it holds: null or some reference -/
def vx_Zq (C n d : String) (A : Nat → Prop) (U : State) (H : Heap) : Prop := va_Zq C n d A U H ∧ vx_L C n d A U H
theorem vx_Zq.moved {C n d : String} {A : Nat → Prop} {u U : State} {H : Heap} (hvm : u.vm.Alike U.vm) (h : vx_Zq C n d A u H) : vx_Zq C n d A U H := ⟨va_Zq.moved hvm h.1, vx_L.moved hvm h.2⟩
theorem vx_Zq.kept {C n d : String} {A : Nat → Prop} {U : State} {H H1 : Heap} (h : vx_Zq C n d A U H) (hq : ∀ a : Nat, a < H.size → ¬ A a → H1[a]? = H[a]?) : vx_Zq C n d A U H1 := ⟨va_Zq.kept h.1 hq, vx_L.kept h.2 hq⟩
theorem vx_Zq.narrow {C n d : String} {A B : Nat → Prop} {U : State} {H : Heap} (h : vx_Zq C n d A U H) (hAB : ∀ q, B q → A q) : vx_Zq C n d B U H := ⟨va_Zq.narrow h.1 hAB, vx_L.narrow h.2 hAB⟩
theorem vx_Zqof {args : Array Value} {s : State} {C n d : String} {A : Nat → Prop} (hl : (Cond.laysStatic C n d).before args s = true) (hini : (Cond.initialized C).before args s = true) (h : (Cond.isRef (.static C n d)).before args s = true) (hA : ∀ a : Nat, a < s.heap.size → ¬ A a) : vx_Zq C n d A s s.heap := by
  refine ⟨va_Zqof hl hini h hA, ?_⟩
  obtain ⟨c, k, i, f, a, cell, h1, h2, h3, h4, h5, h6, h7, h8, h9⟩ := Cond.laysStatic_spec hl
  exact ⟨c, k, i, f, a, cell, h1, h2, h3, h4, h5, h6, h7, h8, h9, hA a (Array.getElem?_eq_some_iff.mp h5).1⟩
theorem vx_isRef {C n d : String} {v : Value} {A : Nat → Prop} {s : State} {args : Array Value} (h : va_Z C n d v A s s.heap) (hv : v.isRef = true) : (Cond.isRef (.static C n d)).before args s = true := by
  obtain ⟨cf, kf, fi, f, a, cell, h1, h2, h3, h4, h5, h6, h7, -⟩ := h
  have he : (Term.static C n d).eval args s none [] s = some v := by
    simp [Term.eval, State.fieldNamed?, h1, h2, h4, h5, h6, h7]
  simp only [Cond.before, Cond.holds, Cond.value, he]
  cases v <;> simp_all [Value.isRef]
theorem vx_isRefq {C n d : String} {A : Nat → Prop} {s : State} {args : Array Value} (h : va_Zq C n d A s s.heap) : (Cond.isRef (.static C n d)).before args s = true := by
  rcases h with h | ⟨t, h⟩
  · exact vx_isRef h rfl
  · exact vx_isRef h rfl
/-- the same frame, seen from here: as if the method were called anew in this heap -/
theorem vx_rebase {T : State} (X : Stand p l e R s m args below meth c T locs cells slots) {R' : Room} (hf : R'.frames ≤ R.frames) (hl : R'.locals ≤ R.locals) (hc : cells + R'.cells ≤ R.cells) (hs : slots + R'.slots ≤ R.slots) :
    Stand p l e R' ((T.setVm s.vm).setFrames (.invoking m args :: below)) m args below meth c T [] 0 0 := by
  have htop : (T.setVm s.vm).topJava?.isSome := X.here.top
  have hF : ((T.setVm s.vm).setFrames (.invoking m args :: below)).frames = .invoking m args :: below := State.frames_setFrames _ (State.cur_lt_of_top htop)
  obtain ⟨g₀, hg0⟩ := Option.isSome_iff_exists.mp htop
  obtain ⟨r, hr⟩ := State.topJava?_eq_some.mp hg0
  have hl9 : e.platform.stackLimits (T.setVm s.vm).me = e.platform.stackLimits s.me := X.limits
  have hb9 : (T.setVm s.vm).me.stackBytes = s.me.stackBytes := X.bytes
  refine ⟨X.admits, X.cas, X.clock, hF, ?_, X.hears, X.method, X.code, X.here, X.tail, X.warmed, ?_, ?_, ?_⟩
  · have h := X.room
    have hU : ((T.setVm s.vm).setFrames (.invoking m args :: below)).localsInUse = s.localsInUse := by
      rw [State.localsInUse_invoking hF (meth := meth) (c := c) X.method X.code, State.localsInUse_invoking X.frames X.method X.code]
    simp only [State.hasRoom, Bool.and_eq_true, decide_eq_true_eq] at h ⊢
    obtain ⟨⟨⟨⟨h1, h2, h3, h4, h5, h6⟩, h7⟩, h8⟩, h9⟩ := h
    rw [X.frames, List.length_cons] at h2 h3
    have q1 := X.heapSize
    have q2 := X.used
    simp only [hF, hU, List.length_cons, State.stackLimits_setFrames, State.stackBytes_setFrames, hl9, hb9]
    refine ⟨⟨⟨⟨by omega, by omega, by omega, by omega, by omega, h6⟩, ?_⟩, ?_⟩, X.book⟩
    · show T.heap.size + R'.cells ≤ e.platform.maxCells
      omega
    · show T.slotsUsed + R'.slots ≤ e.platform.maxSlots
      omega
  · rw [State.stackLimits_setFrames]; rfl
  · rw [State.stackBytes_setFrames]; rfl
  · refine ⟨?_, Nat.le_refl _, Nat.le_refl _, ?_, ?_, fun a c9 h9 => ⟨c9, h9, rfl, rfl, fun _ _ => rfl⟩⟩
    · obtain ⟨t, ht, -⟩ := State.frames_cons hr
      show T.setVm s.vm = { ((T.setVm s.vm).setFrames (.invoking m args :: below)).setFrames (T.setVm s.vm).frames with heap := T.heap, slotsUsed := T.slotsUsed }
      rw [State.setFrames_setFrames, State.setFrames_self ht]
      rfl
    · show T.slotsUsed = T.slotsUsed + ((T.heap.toList.drop T.heap.size).map (·.slots.size)).sum
      rw [List.drop_eq_nil_of_le (Nat.le_of_eq Array.length_toList)]
      rfl
    · show ((T.heap.toList.drop T.heap.size).map (·.slots.size)).sum ≤ 0
      rw [List.drop_eq_nil_of_le (Nat.le_of_eq Array.length_toList)]
      exact Nat.le_refl _
/-- 'throw new E()': new; dup; invokespecial; athrow -/
theorem vx_throw0 {cc : ByteArray} {pc : Nat} (hexec : p.tables.exec = Jvm.exec) (hb : c.code = cc) (hl : l.stackTraces = false) {own cls : String} {names : List String} {ik ic mc ms : Nat} {A : Nat → Prop}
    (hown : s.vm.findClass own = some m.cls) (hcls : Bundle.fit cls = true) (hnames : ∀ n ∈ names, Bundle.fit n = true)
    (hk : (Cond.classLink own ik cls).before args s = true) (hini : (Cond.initialized cls).before args s = true) (hat : ∀ w ∈ vx_at0 own ic cls names, w.before args s = true)
    (hgood : ∀ w ∈ Cond.classLink own ik cls :: Cond.initialized cls :: vx_at0 own ic cls names, vx_ot w = true)
    (hU : vx_Zq Bundle.tN "UNASSIGNED_STACK" Bundle.steD A s s.heap) (hN : vx_Zq Bundle.tN "SUPPRESSED_SENTINEL" Bundle.listD A s s.heap) (hS : va_S A s.heap H locs) (hsize : ls.size = c.maxLocals)
    (d0 : decode cc pc = .ok (.new ik, 3)) (d3 : decode cc (pc + 3) = .ok (.dup, 1)) (d4 : decode cc (pc + 4) = .ok (.invokespecial ic, 3)) (d7 : decode cc (pc + 7) = .ok (.athrow, 1))
    (hout : ∀ x ∈ c.exceptionTable.toList, covers x (pc + 7) = false)
    (hRframes : names.length + 3 < R.frames) (hRlocals : (rest.map fun v => v.category).sum + (13 * (names.length + 1) + 42) ≤ R.locals) (hRcells : cells + 1 ≤ R.cells) (hRslots : slots + 6 ≤ R.slots) (hlocks : meth.locks = false)
    (hx : ∀ t : State, s.vm.Alike t.vm → H.size ≤ t.heap.size → (∀ q : Nat, q < H.size → t.heap[q]? = H[q]?) → XC cls s t)
    (hf : ∀ z ∈ locs, free z.base) (hc : cells + 1 ≤ mc) (hs : slots + 6 ≤ ms) :
    W p l e R s m args below meth c H locs cells slots (vx_MQ below Qc XC args s mc ms free) (F0 m pc ls rest) := by
  intro T hT X
  have htr : e.platform.stackTraces = false := (show e.platform.stackTraces = l.stackTraces by rw [X.admits.platform]).trans hl
  have Y := vx_rebase X (R' := { frames := R.frames, locals := R.locals, cells := 1, slots := 6 }) (Nat.le_refl _) (Nat.le_refl _) hRcells hRslots
  obtain ⟨s', hA⟩ : ∃ z, z = (T.setVm s.vm).setFrames (.invoking m args :: below) := ⟨_, rfl⟩
  rw [← hA] at Y
  have hvm : s'.vm = s.vm := by rw [hA]; rfl
  have hhp : s'.heap = H := by rw [hA]; exact hT
  have hW0 : s.WarmedH s'.vm := by rw [hvm]; exact State.WarmedH.refl s
  have hat' : ∀ w ∈ vx_at0 own ic cls names, w.before args s' = true := fun w hw => vx_ot_at hW0 hvm.symm (hgood w (List.mem_cons_of_mem _ (List.mem_cons_of_mem _ hw))) (hat w hw)
  have hk' : (Cond.classLink own ik cls).before args s' = true := vx_ot_at hW0 hvm.symm (hgood _ List.mem_cons_self) hk
  have hini' : (Cond.initialized cls).before args s' = true := vx_ot_at hW0 hvm.symm (hgood _ (List.mem_cons_of_mem _ List.mem_cons_self)) hini
  have hU' : vx_Zq Bundle.tN "UNASSIGNED_STACK" Bundle.steD A s' s'.heap := by rw [hhp]; exact vx_Zq.moved hW0.alike (hU.kept hS.2.1)
  have hN' : vx_Zq Bundle.tN "SUPPRESSED_SENTINEL" Bundle.listD A s' s'.heap := by rw [hhp]; exact vx_Zq.moved hW0.alike (hN.kept hS.2.1)
  have h : ∀ w ∈ Bundle.ownAtoms0 own ic cls names, w.before args s' = true := vx_own hat' (vx_isRefq hU'.1) (vx_isRefq hN'.1) hU'.2.word hN'.2.word
  have hown' : s'.vm.findClass own = some m.cls := by rw [hvm]; exact hown
  have hins : (Cond.instantiable cls 6).before args s' = true := h _ (by simp [Bundle.ownAtoms0])
  obtain ⟨vm₁, cX, kX, hfX, hkX, -, -, X₁, st1⟩ := Y.newCold hexec (own := own) (C := cls) (index := ik) (n := 6) hown' hk' hins hini'
    (g := F0 m pc ls rest) rfl (by rw [hb]; exact d0) (Nat.le_refl _) (Nat.le_refl _)
  generalize hT1 : (T.setVm vm₁).pushCell { cls := cX, slots := kX.instanceTypes.map defaultValue, vm := .none } = T1 at X₁ st1
  have hcat : (Value.ref T.heap.size).category = 1 := rfl
  have hcellA : T1.heap[T.heap.size]? = some (freshCell cX kX) := by rw [← hT1]; exact State.heap_pushCell_size _ _
  have d3' : decode c.code (pc + 3) = .ok (.dup, 1) := by rw [hb]; exact d3
  obtain ⟨U, hsteps, hrun, hend, hW, hsame, ce, hce, hO⟩ := X₁.ctorThrow0 hexec htr (own := own) (cls := cls) (names := names) (ic := ic) hown' hcls hnames h (fun x hx => nomatch hx) hfX hkX hcellA (by rw [hhp, hT]; exact Nat.le_refl _)
    (g := { method := m, pc := pc + 4, locals := ls, stack := .ref T.heap.size :: .ref T.heap.size :: rest, locked := none }) rfl hsize rfl rfl (rest := rest) rfl
    (by rw [hb]; exact d4) (by rw [hb]; exact d7) hout hRframes (by simp only [List.map_cons, List.sum_cons, hcat]; omega) hlocks
  obtain ⟨f1, f2⟩ := vx_frame hsame
  rw [hhp] at f1 f2
  have hWs : s.WarmedH U.vm := State.WarmedH.trans hW0 hW
  have hcl : s.vm.findClass cls = some ce.cls := by
    have h9 := hO.cls
    rw [hvm] at h9
    exact h9
  have hall : s.sameButNew ({ U with vm := s.vm } : State) locs mc ms := by
    subst hA
    obtain ⟨e1, e2⟩ := hsame
    rw [State.setFrames_setFrames] at e1
    have h2 : (T.setVm s.vm).sameButNew ({ U with vm := s.vm } : State) [] (0 + 1) (0 + 6) := ⟨e1, e2⟩
    have h3 := X.same.trans h2
    rw [List.append_nil] at h3
    exact h3.mono hc hs
  refine ⟨U, ?_, .threw T.heap.size, hrun, hend, Or.inr ⟨T.heap.size, rfl, cls, ce, locs, hx U hWs.alike f1 (fun q hq => f2 q hq (fun z hz => nomatch hz)), hce, hO.vm, hcl, hWs, hall, hf⟩⟩
  refine st1 _ ?_
  show Steps p.tables e below (T1.setTop { method := m, pc := pc + 3, locals := ls, stack := .ref T.heap.size :: rest, locked := none }) _
  jvm_step X₁.here [X₁.here.top, hexec, d3', Value.category]
  exact hsteps
/-- 'throw new E("text")': new; dup; ldc; invokespecial; athrow -/
theorem vx_throwS {cc : ByteArray} {pc : Nat} (hexec : p.tables.exec = Jvm.exec) (hb : c.code = cc) (hl : l.stackTraces = false) {own cls text : String} {names : List String} {ik is ic mc ms sa : Nat} {A : Nat → Prop}
    (hown : s.vm.findClass own = some m.cls) (hcls : Bundle.fit cls = true) (hnames : ∀ n ∈ names, Bundle.fit n = true)
    (hk : (Cond.classLink own ik cls).before args s = true) (hini : (Cond.initialized cls).before args s = true) (hstr : vk_R own is text sa s) (hat : ∀ w ∈ vx_atS own ic cls names, w.before args s = true)
    (hgood : ∀ w ∈ Cond.classLink own ik cls :: Cond.initialized cls :: vx_atS own ic cls names, vx_ot w = true)
    (hU : vx_Zq Bundle.tN "UNASSIGNED_STACK" Bundle.steD A s s.heap) (hN : vx_Zq Bundle.tN "SUPPRESSED_SENTINEL" Bundle.listD A s s.heap) (hS : va_S A s.heap H locs) (hsize : ls.size = c.maxLocals)
    (d0 : decode cc pc = .ok (.new ik, 3)) (d3 : decode cc (pc + 3) = .ok (.dup, 1)) (d4 : decode cc (pc + 4) = .ok (.ldc is, 2)) (d6 : decode cc (pc + 6) = .ok (.invokespecial ic, 3)) (d9 : decode cc (pc + 9) = .ok (.athrow, 1))
    (hout : ∀ x ∈ c.exceptionTable.toList, covers x (pc + 9) = false)
    (hRframes : names.length + 3 < R.frames) (hRlocals : (rest.map fun v => v.category).sum + (13 * (names.length + 1) + 43) ≤ R.locals) (hRcells : cells + 1 ≤ R.cells) (hRslots : slots + 6 ≤ R.slots) (hlocks : meth.locks = false)
    (hx : ∀ t : State, s.vm.Alike t.vm → H.size ≤ t.heap.size → (∀ q : Nat, q < H.size → t.heap[q]? = H[q]?) → XC cls s t)
    (hf : ∀ z ∈ locs, free z.base) (hc : cells + 1 ≤ mc) (hs : slots + 6 ≤ ms) :
    W p l e R s m args below meth c H locs cells slots (vx_MQ below Qc XC args s mc ms free) (F0 m pc ls rest) := by
  intro T hT X
  have htr : e.platform.stackTraces = false := (show e.platform.stackTraces = l.stackTraces by rw [X.admits.platform]).trans hl
  have Y := vx_rebase X (R' := { frames := R.frames, locals := R.locals, cells := 1, slots := 6 }) (Nat.le_refl _) (Nat.le_refl _) hRcells hRslots
  obtain ⟨s', hA⟩ : ∃ z, z = (T.setVm s.vm).setFrames (.invoking m args :: below) := ⟨_, rfl⟩
  rw [← hA] at Y
  have hvm : s'.vm = s.vm := by rw [hA]; rfl
  have hhp : s'.heap = H := by rw [hA]; exact hT
  have hW0 : s.WarmedH s'.vm := by rw [hvm]; exact State.WarmedH.refl s
  have hat' : ∀ w ∈ vx_atS own ic cls names, w.before args s' = true := fun w hw => vx_ot_at hW0 hvm.symm (hgood w (List.mem_cons_of_mem _ (List.mem_cons_of_mem _ hw))) (hat w hw)
  have hk' : (Cond.classLink own ik cls).before args s' = true := vx_ot_at hW0 hvm.symm (hgood _ List.mem_cons_self) hk
  have hini' : (Cond.initialized cls).before args s' = true := vx_ot_at hW0 hvm.symm (hgood _ (List.mem_cons_of_mem _ List.mem_cons_self)) hini
  have hU' : vx_Zq Bundle.tN "UNASSIGNED_STACK" Bundle.steD A s' s'.heap := by rw [hhp]; exact vx_Zq.moved hW0.alike (hU.kept hS.2.1)
  have hN' : vx_Zq Bundle.tN "SUPPRESSED_SENTINEL" Bundle.listD A s' s'.heap := by rw [hhp]; exact vx_Zq.moved hW0.alike (hN.kept hS.2.1)
  have h : ∀ w ∈ Bundle.ownAtoms own ic cls names, w.before args s' = true := vx_own hat' (vx_isRefq hU'.1) (vx_isRefq hN'.1) hU'.2.word hN'.2.word
  have hown' : s'.vm.findClass own = some m.cls := by rw [hvm]; exact hown
  have hins : (Cond.instantiable cls 6).before args s' = true := h _ (by simp [Bundle.ownAtoms])
  obtain ⟨vm₁, cX, kX, hfX, hkX, -, -, X₁, st1⟩ := Y.newCold hexec (own := own) (C := cls) (index := ik) (n := 6) hown' hk' hins hini'
    (g := F0 m pc ls rest) rfl (by rw [hb]; exact d0) (Nat.le_refl _) (Nat.le_refl _)
  generalize hT1 : (T.setVm vm₁).pushCell { cls := cX, slots := kX.instanceTypes.map defaultValue, vm := .none } = T1 at X₁ st1
  have hcat : (Value.ref T.heap.size).category = 1 := rfl
  have hcellA : T1.heap[T.heap.size]? = some (freshCell cX kX) := by rw [← hT1]; exact State.heap_pushCell_size _ _
  have d3' : decode c.code (pc + 3) = .ok (.dup, 1) := by rw [hb]; exact d3
  have d4' : decode c.code (pc + 4) = .ok (.ldc is, 2) := by rw [hb]; exact d4
  have hstr' : vk_R own is text sa s' := vk_R.warm hW0 hstr
  obtain ⟨U, hsteps, hrun, hend, hW, hsame, ce, hce, hO⟩ := X₁.ctorThrowS hexec htr (own := own) (cls := cls) (names := names) (ic := ic) hown' hcls hnames h (fun x hx => nomatch hx) hfX hkX hcellA (by rw [hhp, hT]; exact Nat.le_refl _) (msg := .ref sa) rfl
    (g := { method := m, pc := pc + 6, locals := ls, stack := .ref sa :: .ref T.heap.size :: .ref T.heap.size :: rest, locked := none }) rfl hsize rfl rfl (rest := rest) rfl
    (by rw [hb]; exact d6) (by rw [hb]; exact d9) hout hRframes (by simp only [List.map_cons, List.sum_cons, hcat]; omega) hlocks
  obtain ⟨f1, f2⟩ := vx_frame hsame
  rw [hhp] at f1 f2
  have hWs : s.WarmedH U.vm := State.WarmedH.trans hW0 hW
  have hcl : s.vm.findClass cls = some ce.cls := by
    have h9 := hO.cls
    rw [hvm] at h9
    exact h9
  have hall : s.sameButNew ({ U with vm := s.vm } : State) locs mc ms := by
    subst hA
    obtain ⟨e1, e2⟩ := hsame
    rw [State.setFrames_setFrames] at e1
    have h2 : (T.setVm s.vm).sameButNew ({ U with vm := s.vm } : State) [] (0 + 1) (0 + 6) := ⟨e1, e2⟩
    have h3 := X.same.trans h2
    rw [List.append_nil] at h3
    exact h3.mono hc hs
  refine ⟨U, ?_, .threw T.heap.size, hrun, hend, Or.inr ⟨T.heap.size, rfl, cls, ce, locs, hx U hWs.alike f1 (fun q hq => f2 q hq (fun z hz => nomatch hz)), hce, hO.vm, hcl, hWs, hall, hf⟩⟩
  refine st1 _ ?_
  show Steps p.tables e below (T1.setTop { method := m, pc := pc + 3, locals := ls, stack := .ref T.heap.size :: rest, locked := none }) _
  jvm_step X₁.here [X₁.here.top, hexec, d3', Value.category]
  exact X₁.ldcString hexec (own := own) (text := text) (index := is) (a := sa) hown' hstr'.1 hstr'.2
    (g := { method := m, pc := pc + 4, locals := ls, stack := .ref T.heap.size :: .ref T.heap.size :: rest, locked := none }) rfl d4' _ hsteps
/-- 'throw new E("text")', the text by a wide index -/
theorem vx_throwSW {cc : ByteArray} {pc : Nat} (hexec : p.tables.exec = Jvm.exec) (hb : c.code = cc) (hl : l.stackTraces = false) {own cls text : String} {names : List String} {ik is ic mc ms sa : Nat} {A : Nat → Prop}
    (hown : s.vm.findClass own = some m.cls) (hcls : Bundle.fit cls = true) (hnames : ∀ n ∈ names, Bundle.fit n = true)
    (hk : (Cond.classLink own ik cls).before args s = true) (hini : (Cond.initialized cls).before args s = true) (hstr : vk_R own is text sa s) (hat : ∀ w ∈ vx_atS own ic cls names, w.before args s = true)
    (hgood : ∀ w ∈ Cond.classLink own ik cls :: Cond.initialized cls :: vx_atS own ic cls names, vx_ot w = true)
    (hU : vx_Zq Bundle.tN "UNASSIGNED_STACK" Bundle.steD A s s.heap) (hN : vx_Zq Bundle.tN "SUPPRESSED_SENTINEL" Bundle.listD A s s.heap) (hS : va_S A s.heap H locs) (hsize : ls.size = c.maxLocals)
    (d0 : decode cc pc = .ok (.new ik, 3)) (d3 : decode cc (pc + 3) = .ok (.dup, 1)) (d4 : decode cc (pc + 4) = .ok (.ldc_w is, 3)) (d7 : decode cc (pc + 7) = .ok (.invokespecial ic, 3)) (d10 : decode cc (pc + 10) = .ok (.athrow, 1))
    (hout : ∀ x ∈ c.exceptionTable.toList, covers x (pc + 10) = false)
    (hRframes : names.length + 3 < R.frames) (hRlocals : (rest.map fun v => v.category).sum + (13 * (names.length + 1) + 43) ≤ R.locals) (hRcells : cells + 1 ≤ R.cells) (hRslots : slots + 6 ≤ R.slots) (hlocks : meth.locks = false)
    (hx : ∀ t : State, s.vm.Alike t.vm → H.size ≤ t.heap.size → (∀ q : Nat, q < H.size → t.heap[q]? = H[q]?) → XC cls s t)
    (hf : ∀ z ∈ locs, free z.base) (hc : cells + 1 ≤ mc) (hs : slots + 6 ≤ ms) :
    W p l e R s m args below meth c H locs cells slots (vx_MQ below Qc XC args s mc ms free) (F0 m pc ls rest) := by
  intro T hT X
  have htr : e.platform.stackTraces = false := (show e.platform.stackTraces = l.stackTraces by rw [X.admits.platform]).trans hl
  have Y := vx_rebase X (R' := { frames := R.frames, locals := R.locals, cells := 1, slots := 6 }) (Nat.le_refl _) (Nat.le_refl _) hRcells hRslots
  obtain ⟨s', hA⟩ : ∃ z, z = (T.setVm s.vm).setFrames (.invoking m args :: below) := ⟨_, rfl⟩
  rw [← hA] at Y
  have hvm : s'.vm = s.vm := by rw [hA]; rfl
  have hhp : s'.heap = H := by rw [hA]; exact hT
  have hW0 : s.WarmedH s'.vm := by rw [hvm]; exact State.WarmedH.refl s
  have hat' : ∀ w ∈ vx_atS own ic cls names, w.before args s' = true := fun w hw => vx_ot_at hW0 hvm.symm (hgood w (List.mem_cons_of_mem _ (List.mem_cons_of_mem _ hw))) (hat w hw)
  have hk' : (Cond.classLink own ik cls).before args s' = true := vx_ot_at hW0 hvm.symm (hgood _ List.mem_cons_self) hk
  have hini' : (Cond.initialized cls).before args s' = true := vx_ot_at hW0 hvm.symm (hgood _ (List.mem_cons_of_mem _ List.mem_cons_self)) hini
  have hU' : vx_Zq Bundle.tN "UNASSIGNED_STACK" Bundle.steD A s' s'.heap := by rw [hhp]; exact vx_Zq.moved hW0.alike (hU.kept hS.2.1)
  have hN' : vx_Zq Bundle.tN "SUPPRESSED_SENTINEL" Bundle.listD A s' s'.heap := by rw [hhp]; exact vx_Zq.moved hW0.alike (hN.kept hS.2.1)
  have h : ∀ w ∈ Bundle.ownAtoms own ic cls names, w.before args s' = true := vx_own hat' (vx_isRefq hU'.1) (vx_isRefq hN'.1) hU'.2.word hN'.2.word
  have hown' : s'.vm.findClass own = some m.cls := by rw [hvm]; exact hown
  have hins : (Cond.instantiable cls 6).before args s' = true := h _ (by simp [Bundle.ownAtoms])
  obtain ⟨vm₁, cX, kX, hfX, hkX, -, -, X₁, st1⟩ := Y.newCold hexec (own := own) (C := cls) (index := ik) (n := 6) hown' hk' hins hini'
    (g := F0 m pc ls rest) rfl (by rw [hb]; exact d0) (Nat.le_refl _) (Nat.le_refl _)
  generalize hT1 : (T.setVm vm₁).pushCell { cls := cX, slots := kX.instanceTypes.map defaultValue, vm := .none } = T1 at X₁ st1
  have hcat : (Value.ref T.heap.size).category = 1 := rfl
  have hcellA : T1.heap[T.heap.size]? = some (freshCell cX kX) := by rw [← hT1]; exact State.heap_pushCell_size _ _
  have d3' : decode c.code (pc + 3) = .ok (.dup, 1) := by rw [hb]; exact d3
  have d4' : decode c.code (pc + 4) = .ok (.ldc_w is, 3) := by rw [hb]; exact d4
  have hstr' : vk_R own is text sa s' := vk_R.warm hW0 hstr
  obtain ⟨U, hsteps, hrun, hend, hW, hsame, ce, hce, hO⟩ := X₁.ctorThrowS hexec htr (own := own) (cls := cls) (names := names) (ic := ic) hown' hcls hnames h (fun x hx => nomatch hx) hfX hkX hcellA (by rw [hhp, hT]; exact Nat.le_refl _) (msg := .ref sa) rfl
    (g := { method := m, pc := pc + 7, locals := ls, stack := .ref sa :: .ref T.heap.size :: .ref T.heap.size :: rest, locked := none }) rfl hsize rfl rfl (rest := rest) rfl
    (by rw [hb]; exact d7) (by rw [hb]; exact d10) hout hRframes (by simp only [List.map_cons, List.sum_cons, hcat]; omega) hlocks
  obtain ⟨f1, f2⟩ := vx_frame hsame
  rw [hhp] at f1 f2
  have hWs : s.WarmedH U.vm := State.WarmedH.trans hW0 hW
  have hcl : s.vm.findClass cls = some ce.cls := by
    have h9 := hO.cls
    rw [hvm] at h9
    exact h9
  have hall : s.sameButNew ({ U with vm := s.vm } : State) locs mc ms := by
    subst hA
    obtain ⟨e1, e2⟩ := hsame
    rw [State.setFrames_setFrames] at e1
    have h2 : (T.setVm s.vm).sameButNew ({ U with vm := s.vm } : State) [] (0 + 1) (0 + 6) := ⟨e1, e2⟩
    have h3 := X.same.trans h2
    rw [List.append_nil] at h3
    exact h3.mono hc hs
  refine ⟨U, ?_, .threw T.heap.size, hrun, hend, Or.inr ⟨T.heap.size, rfl, cls, ce, locs, hx U hWs.alike f1 (fun q hq => f2 q hq (fun z hz => nomatch hz)), hce, hO.vm, hcl, hWs, hall, hf⟩⟩
  refine st1 _ ?_
  show Steps p.tables e below (T1.setTop { method := m, pc := pc + 3, locals := ls, stack := .ref T.heap.size :: rest, locked := none }) _
  jvm_step X₁.here [X₁.here.top, hexec, d3', Value.category]
  exact X₁.ldcStringW hexec (own := own) (text := text) (index := is) (a := sa) hown' hstr'.1 hstr'.2
    (g := { method := m, pc := pc + 4, locals := ls, stack := .ref T.heap.size :: .ref T.heap.size :: rest, locked := none }) rfl d4' _ hsteps
end Ends
section Bodies
variable {l : Launch}
theorem vx_ofW {y : MethodName} {ws ws' : List Cond} {rm : Room} {Pc : Array Value → State → Prop} {Qc : Array Value → State → Outcome → State → Prop} {XC : String → State → State → Prop} {mc ms : Nat} {free : Addr → Prop} {cc : ByteArray} {maxL : Nat} {ret : Option FieldType}
    (hy : plainName y.cls = true) (hw : ws = Cond.code y cc maxL ret :: ws')
    (body : ∀ p e s m args below meth c s₁, BodyLoose p l y (headSpec ws rm) cc maxL ret e s m args below meth c s₁ → c.maxLocals = maxL → (∀ x ∈ c.exceptionTable.toList, False) → Pc args s →
      W p l e (headSpec ws rm).room s m args below meth c s.heap [] 0 0 (vx_MQ below Qc XC args s mc ms free) (entryFrame m args maxL)) : vx_Met l y ws rm Pc Qc XC mc ms free := by
  refine MetFree.of_bodyS (code := cc) (maxLocals := maxL) (ret := ret) hy ?_ ?_
  · intro args s m h hn
    obtain ⟨meth, c, h1, h2, h3, h4, h5, h6, -, -⟩ := Cond.code_spec hn (atoms_spec (ws := ws) h _ (by rw [hw]; exact List.mem_cons_self))
    exact ⟨meth, c, h1, h2, h3, h4, h5, h6⟩
  · intro p e s m args below meth c s₁ B hml hP _
    have hh0 : s₁.heap = s.heap := by rw [B.state]; rfl
    have ht : ∀ x ∈ c.exceptionTable.toList, False := by
      obtain ⟨meth9, c9, h1, h2, -, -, -, -, h7, -⟩ := Cond.code_spec B.named (atoms_spec (ws := ws) B.pre _ (by rw [hw]; exact List.mem_cons_self))
      cases Option.some.inj (h1.symm.trans B.method)
      cases Option.some.inj (h2.symm.trans (Stand.of_body B).code)
      intro x hx
      rw [Array.isEmpty_iff.mp h7] at hx
      cases hx
    obtain ⟨t, a1, o, b1, b2, b3⟩ := body p e s m args below meth c s₁ B hml ht hP s₁ hh0 (Stand.of_body B)
    exact ⟨t, o, a1, b1, b2, b3⟩
/-- the table of a body with handlers -/
theorem vx_table {p : Program} {x y : MethodName} {S : Spec} {cc bytes : ByteArray} {maxL maxL' : Nat} {ret ret' : Option FieldType} {e : Env} {s s₁ : State} {m : MethodId} {args : Array Value} {below : List Frame} {meth : Method} {c : Code} {hh : List (Nat × Nat × Nat × Nat)}
    (B : BodyLoose p l y S cc maxL ret e s m args below meth c s₁) (h : (Cond.codeWith y bytes maxL' ret' hh).before args s = true) : c.exceptionTable.toList = tableOf hh := by
  obtain ⟨m9, meth9, c9, hn9, h1, h2, -, -, h6, -⟩ := Cond.codeWith_spec h
  cases Option.some.inj (hn9.symm.trans B.named)
  cases Option.some.inj (h1.symm.trans B.method)
  cases Option.some.inj (h2.symm.trans (Stand.of_body B).code)
  rw [← h6, table_eq]
end Bodies
end VXA
/-! ===== END ===== -/
/-! ===== BEGIN a static call of a method with an exception table ===== -/
section VXS
variable {p : Program} {l : Launch} {e : Env} {R : Room} {s : State} {m : MethodId} {args : Array Value} {below : List Frame} {meth : Method} {c : Code} {T : State} {H : Heap} {locs : List Loc} {cells slots : Nat}
abbrev vx_CSW (R : Room) (s : State) (args : Array Value) (own : String) (index : Nat) (y : MethodName) (bytes : ByteArray) (maxL : Nat) (ret : Option FieldType) (hh : List (Nat × Nat × Nat × Nat)) (ws : List Cond) (rm : Room) (mc ms n : Nat) : Prop :=
  (rm.cells = mc ∧ rm.slots = ms ∧ rm.frames + 1 ≤ R.frames ∧ 8 + (maxL + 11) + rm.locals ≤ R.locals ∧ (∀ w ∈ ws, ∀ (a' : Array Value) (U : State), s.WarmedH U.vm → w.before a' U = true) ∧ Cond.codeWith y bytes maxL ret hh ∈ ws) ∧
  (Cond.codeWith y bytes maxL ret hh).before args s = true ∧ (Cond.initialized y.cls).before args s = true ∧ (y.cls ≠ "java/lang/invoke/MethodHandle" ∧ y.cls ≠ "java/lang/invoke/VarHandle") ∧
  (∀ sig, parseMethodDescriptor y.desc = some sig → n = sig.parameters.length) ∧ (Cond.methodLink own index y).before args s = true ∧ (Cond.static y).before args s = true
theorem vx_cwSW {own : String} {index maxL mc ms : Nat} {y : MethodName} {bytes : ByteArray} {ret : Option FieldType} {hh : List (Nat × Nat × Nat × Nat)} {Ts ws ws' : List Cond} {rm : Room} (n : Nat) (ht : ∀ w ∈ Ts, w.before args s = true) (hT : GoodIn Ts (va_wsS own index y ws)) (hw : ws = Cond.codeWith y bytes maxL ret hh :: ws') (hrc : rm.cells = mc) (hrs : rm.slots = ms)
    (hd : y.cls ≠ "java/lang/invoke/MethodHandle" ∧ y.cls ≠ "java/lang/invoke/VarHandle" ∧ (parseMethodDescriptor y.desc).map (fun d => d.parameters.length) = some n) (hR : rm.frames + 1 ≤ R.frames ∧ 8 + (maxL + 11) + rm.locals ≤ R.locals) :
    vx_CSW R s args own index y bytes maxL ret hh ws rm mc ms n := by
  have ok : ∀ w ∈ va_wsS own index y ws, w.before args s = true := fun w h => ht w (hT w h).1
  have hG : GoodIn Ts ws := fun w h => hT w (by unfold va_wsS; exact List.mem_append_right _ h)
  have hc : Cond.codeWith y bytes maxL ret hh ∈ ws := by rw [hw]; exact List.mem_cons_self
  refine ⟨⟨hrc, hrs, hR.1, hR.2, pay_in ht hG, hc⟩, ht _ (hG _ hc).1, ok _ (by simp [va_wsS]), ⟨hd.1, hd.2.1⟩, fun sig h => ?_, ok _ (by simp [va_wsS]), ok _ (by simp [va_wsS])⟩
  have h2 := hd.2.2
  rw [h] at h2
  exact (Option.some.inj h2).symm
theorem vx_callSW (X : Stand p l e R s m args below meth c T locs cells slots) (hexec : p.tables.exec = Jvm.exec) {own : String} {index : Nat} {y : MethodName} {bytes : ByteArray} {maxL : Nat} {ret : Option FieldType} {hh : List (Nat × Nat × Nat × Nat)}
    (hown : s.vm.findClass own = some m.cls) (hlink : (Cond.methodLink own index y).before args s = true) (hstat : (Cond.static y).before args s = true) (hinit : (Cond.initialized y.cls).before args s = true)
    (hcode : (Cond.codeWith y bytes maxL ret hh).before args s = true) (hy : y.cls ≠ "java/lang/invoke/MethodHandle" ∧ y.cls ≠ "java/lang/invoke/VarHandle")
    {W9 : Nat} {Pre : Pt → Array Value → Prop} {Post : Pt → Array Value → Option Value → Pt → Prop} (hK : Back l R p e below s args y 3 W9 Pre Post)
    {g : JFrame} (hg : g.method = m) (hsize : g.locals.size = c.maxLocals) {argsL rest : List Value} (hlen : ∀ sig, parseMethodDescriptor y.desc = some sig → argsL.length = sig.parameters.length)
    (hstack : g.stack = argsL.reverse ++ rest) (hW : 2 * g.monitorRoom + (rest.map fun v => v.category).sum ≤ W9) (hdg : decode c.code g.pc = .ok (.invokestatic index, 3))
    (hpre : ∀ vm₁, s.WarmedH vm₁ → Pre ⟨T.setVm vm₁, locs, cells, slots⟩ argsL.toArray) :
    ∃ (v : Option Value) (vm₁ : Vm) (B : Pt), s.WarmedH vm₁ ∧ Stand p l e R s m args below meth c B.U B.locs B.cells B.slots ∧ Post ⟨T.setVm vm₁, locs, cells, slots⟩ argsL.toArray v B ∧
      ∀ target, Steps p.tables e below (B.U.setTop { g with pc := g.pc + 3, stack := v.toList ++ rest }) target → Steps p.tables e below (T.setTop g) target := by
  obtain ⟨mk, methM, cM, hnamed, hmethM, -, -, -, -, -, -, hsigM⟩ := Cond.codeWith_spec hcode
  have hstatic : methM.isStatic = true := Cond.static_spec hnamed hmethM hstat
  obtain ⟨kP, hkP, -⟩ := className_of_methodNamed hnamed
  have hinitP : kP.init = .initialized := Cond.initialized_spec (findClass_of_methodNamed hnamed) hkP hinit
  obtain ⟨vm₁, X₁, hstep₁⟩ := X.invokestatic hexec hown hlink hnamed hmethM hstatic hkP hinitP hy (g := g) hg (argsL := argsL) (rest := rest) (hlen _ hsigM) hstack hdg
  obtain ⟨v, B, X', hpost, hsteps⟩ := hK m meth c ⟨T.setVm vm₁, locs, cells, slots⟩ { g with stack := rest } (.invokestatic index) mk argsL.toArray X₁ hg hsize hdg hW (X₁.named hnamed) (hpre vm₁ X₁.warmed)
  exact ⟨v, vm₁, B, X₁.warmed, X', hpost, fun target h => hstep₁ _ fun acts => by rw [doInvoke_state]; exact hsteps.trans h⟩
theorem vx_runSW {y : MethodName} {bytes cc : ByteArray} {maxL nL mc ms n index : Nat} {ret : Option FieldType} {hh : List (Nat × Nat × Nat × Nat)} {ws : List Cond} {rm : Room} {Pc : Array Value → State → Prop} {Qc : Array Value → State → Outcome → State → Prop} {free : Addr → Prop} {Ts : List Cond} {own : String} {As rest : List Value} {g : JFrame}
    (S : CallFix p m c cc nL s args Ts own) (hM : Met l y ws rm Pc Qc mc ms free) (cw : vx_CSW R s args own index y bytes maxL ret hh ws rm mc ms n) (hp : PreS s H Pc As)
    (hg : g.method = m) (hn : As.length = n) (hsize : g.locals.size = nL) (hstack : g.stack = As.reverse ++ rest) (hW : 2 * g.monitorRoom + (rest.map fun v => v.category).sum ≤ 8) (hdg : decode cc g.pc = .ok (.invokestatic index, 3)) (hf : cells + mc ≤ R.cells ∧ slots + ms ≤ R.slots) :
    va_Run p l e R s m args below meth c H locs cells slots mc ms g rest (Qc As.toArray) (free) := by
  obtain ⟨⟨hrc, hrs, hfr, hlo, hws, hcw⟩, hcode, hini, hy, hlen, hl, hstt⟩ := cw
  have hK : Back l R p e below s args y 3 8 (PreOf R mc ms Pc) (PostOf Qc mc ms free) := va_backW (hh := hh) (bytes := bytes) (maxL := maxL) (ret := ret) hM hp.1 hrc hrs hfr hlo hws hcw (fun a' U hW => word_at hW (Or.inl (by first | rfl | simp [Cond.onTables, Cond.keeps, Cond.steady])) hini)
  obtain ⟨hx, hb, hml, ho, -⟩ := S
  intro T hT X
  obtain ⟨v, vm₁, ⟨U', l2, c2, s2⟩, hW₁, X', ⟨g', mk, t, L, e1, e2, hq, h1, hL, h2, h3⟩, st⟩ := vx_callSW X hx (hh := hh) (bytes := bytes) (maxL := maxL) (ret := ret) ho hl hstt hini hcode hy hK hg (hsize.trans hml.symm) (argsL := As) (rest := rest) (fun sig h => hn.trans (hlen sig h)) hstack hW (by rw [hb]; exact hdg)
    (fun vm₁ hW₁ => ⟨hf.1, hf.2, hp.2 (T.setVm vm₁) hT hW₁⟩)
  dsimp only [Pt.U, Pt.locs, Pt.cells, Pt.slots] at X' e1 e2 h1 h2 h3 st
  subst h1; subst h2; subst h3
  exact ⟨v, (T.setVm vm₁).calling g' mk As.toArray, t, U', L, hT, X', hL, e1, e2, hq, st⟩
/-- a thing of a world lies in the heap -/
theorem vx_lt {D : va_G} {cl : List vw_C} {ws : va_W} {H1 : Heap} (h : va_P D cl ws H1) {k : Nat} {q : Nat × va_E} (hk : ws[k]? = some q) : q.1 < H1.size := (h k q hk).lt
end VXS
/-! ===== END ===== -/
/-! ===== BEGIN methods with a table of their own: called by a name, returning or throwing ===== -/
section VXH
/-! vx_backW, vx_callVX, vx_callSX, vx_callVW, vx_runVW, vx_runVX, vx_runSX, vx_ofWH follow the same proofs as their sisters above (Free/Laws.lean, Shelf42/LK1.lean); vx_outP calls Shelf42/NT130.lean (outThrough). -/
section
variable {l : Launch} {R : Room} {p : Program} {e : Env} {below : List Frame} {s : State} {sargs : Array Value} {y : MethodName} {len W9 : Nat}
theorem vx_backW {ws : List Cond} {rm : Room} {Pc : Array Value → State → Prop} {Qc : Array Value → State → Outcome → State → Prop} {XC : String → State → State → Prop} {mc ms : Nat} {free : Addr → Prop} {bytes : ByteArray} {maxL : Nat} {ret : Option FieldType} {hh : List (Nat × Nat × Nat × Nat)}
    (hM : vx_Met l y ws rm Pc Qc XC mc ms free) (hblind : FrameBlind Pc) (hrc : rm.cells = mc) (hrs : rm.slots = ms)
    (hframes : rm.frames + 1 ≤ R.frames) (hlocals : W9 + (maxL + 11) + rm.locals ≤ R.locals)
    (hws : ∀ w ∈ ws, ∀ a' U, s.WarmedH U.vm → w.before a' U = true) (hcode : Cond.codeWith y bytes maxL ret hh ∈ ws) (hinit : ∀ a' U, s.WarmedH U.vm → (Cond.initialized y.cls).before a' U = true) :
    vx_Back l R p e below s sargs y len W9 (PreOf R mc ms Pc) (PostOf Qc mc ms free) (vx_Post XC mc ms free) := by
  intro m meth c A g ig mk a X hg hsize hdg hW hn hp
  have h1 : (headSpec ws rm).pre.before a A.U = true := atoms_intro fun w hw => hws w hw _ _ X.warmed
  have h2 : (Cond.codeWith y bytes maxL ret hh).before a A.U = true := hws _ hcode _ _ X.warmed
  have h3 : (Cond.initialized y.cls).before a A.U = true := hinit _ _ X.warmed
  have h4 : A.cells + (headSpec ws rm).room.cells ≤ R.cells := by rw [show (headSpec ws rm).room.cells = mc from hrc]; exact hp.1
  have h5 : A.slots + (headSpec ws rm).room.slots ≤ R.slots := by rw [show (headSpec ws rm).room.slots = ms from hrs]; exact hp.2.1
  have hPc : Pc a (A.U.calling g mk a) := hblind _ _ _ _ hp.2.2
  obtain ⟨U, Ls, c0, s0⟩ := A
  dsimp only [Pt.U, Pt.locs, Pt.cells, Pt.slots] at h1 h2 h3 h4 h5 X hn hPc ⊢
  obtain ⟨m9, methY, cY, hn9, hmY, hcY, -, hlY, -⟩ := Cond.codeWith_spec h2
  cases Option.some.inj (hn9.symm.trans hn)
  obtain ⟨kY, hkY, -⟩ := className_of_methodNamed hn
  have hinitY : kY.init = .initialized := Cond.initialized_spec (findClass_of_methodNamed hn) hkY h3
  have h : At U g.method c below := by rw [hg]; exact X.here
  have hlocals9 : W9 + (maxL + 11) + (headSpec ws rm).room.locals ≤ R.locals := hlocals
  have happ : (headSpec ws rm).appliesLoose y e.platform (U.calling g mk a) = true :=
    Spec.appliesLoose_calling (g := g) h hdg hn hkY hinitY
      (X.room_calling (g := g) (R' := (headSpec ws rm).room) hsize hmY hcY hframes (by rw [hlY]; omega) h4 h5) h1
  obtain ⟨mid, hmid⟩ := h.above
  have hfr : (U.setTop g).frames = (.java g :: mid) ++ below := by rw [State.frames_setTop' g h.top, hmid]; rfl
  obtain ⟨o, s₂, hsteps, -, hend, hq⟩ := Steps.callFree hM p X.admits X.cas X.clock (acts := []) hfr happ hPc trivial
  have hq' : vx_Q Qc XC mc ms free a (U.calling g mk a) o s₂ := hq
  rw [State.frames_setTop' g h.top] at hend
  obtain ⟨g₀, hg0⟩ := Option.isSome_iff_exists.mp h.top
  obtain ⟨r, hr⟩ := State.topJava?_eq_some.mp hg0
  have hr' : (({ U with heap := s₂.heap, slotsUsed := s₂.slotsUsed } : State).setVm s₂.vm).frames = .java g₀ :: r := hr
  rcases hq' with ⟨hqc, L, hfe, hL⟩ | ⟨q, rfl, E, ce, L, hx, hce, hcv, hcl, hW₂, hsm, hL⟩
  · obtain ⟨⟨v, rfl⟩, hW₂, e2, q2, q3, q4, q5, q6⟩ := id hfe
    have e3 : s₂ = ({ (U.calling g mk a).setFrames s₂.frames with heap := s₂.heap, slotsUsed := s₂.slotsUsed } : State).setVm s₂.vm := by
      have : s₂ = ({ s₂ with vm := (U.calling g mk a).vm } : State).setVm s₂.vm := rfl
      rw [e2] at this
      exact this
    obtain ⟨c₂, i₂, len₂, hc₂, hd₂, hf₂⟩ := hend
    have hW' : U.WarmedH s₂.vm := hW₂
    have hcc : c₂ = c := by
      have h1 : s₂.code? g.method = U.code? g.method := by
        rw [State.code?_eq, State.code?_eq, hW'.alike.method?]
      exact Option.some.inj (hc₂.symm.trans (h1.trans h.code))
    subst hcc
    have hlen : len₂ = len := by rw [hdg] at hd₂; cases hd₂; rfl
    subst hlen
    have hs₂ : s₂ = (({ U with heap := s₂.heap, slotsUsed := s₂.slotsUsed } : State).setVm s₂.vm).setTop { g with pc := g.pc + len₂, stack := v.toList ++ g.stack } := by
      refine e3.trans ?_
      rw [hf₂, State.calling_eq h.top, State.setFrames_setFrames, State.setTop_of_frames _ hr', hr]
      rfl
    have hsame : U.sameButNew ({ U with heap := s₂.heap, slotsUsed := s₂.slotsUsed } : State) L mc ms := by
      refine ⟨?_, q2, q3, q4, q5, q6⟩
      obtain ⟨t, ht, -⟩ := State.frames_cons hr
      show ({ U with heap := s₂.heap, slotsUsed := s₂.slotsUsed } : State) = { U.setFrames U.frames with heap := s₂.heap, slotsUsed := s₂.slotsUsed }
      rw [State.setFrames_self ht]
    subst hg
    refine Or.inl ⟨v, ⟨(({ U with heap := s₂.heap, slotsUsed := s₂.slotsUsed } : State).setVm s₂.vm), Ls ++ L, c0 + mc, s0 + ms⟩,
      ⟨X.admits, X.cas, X.clock, X.frames, X.room, X.hears, X.method, X.code, (X.here.setHeapUsed s₂.heap s₂.slotsUsed).setVm hW'.alike, X.tail, State.WarmedH.trans X.warmed hW', X.limits, X.bytes, X.same.trans (hsame.setVm s.vm)⟩,
      ⟨g, mk, s₂, L, rfl, rfl, hqc, rfl, hL, rfl, rfl⟩, ?_⟩
    show Steps p.tables e below _ ((({ U with heap := s₂.heap, slotsUsed := s₂.slotsUsed } : State).setVm s₂.vm).setTop { g with pc := g.pc + len₂, stack := v.toList ++ g.stack })
    rw [← hs₂]
    exact hsteps
  · obtain ⟨e2, q2, q3, q4, q5, q6⟩ := id hsm
    have e3 : s₂ = ({ (U.calling g mk a).setFrames s₂.frames with heap := s₂.heap, slotsUsed := s₂.slotsUsed } : State).setVm s₂.vm := by
      have : s₂ = ({ s₂ with vm := (U.calling g mk a).vm } : State).setVm s₂.vm := rfl
      rw [e2] at this
      exact this
    have hf₂ : s₂.frames = .throwing q :: .java g :: U.frames.tail := hend
    have hW' : U.WarmedH s₂.vm := hW₂
    have hs₂ : s₂ = ((({ U with heap := s₂.heap, slotsUsed := s₂.slotsUsed } : State).setVm s₂.vm).setTop g).pushFrame (.throwing q) := by
      refine e3.trans ?_
      rw [hf₂, State.calling_eq h.top, State.setFrames_setFrames, State.pushFrame, State.frames_setTop _ hr', State.setTop_of_frames _ hr', State.setFrames_setFrames, hr]
      rfl
    have hsame : U.sameButNew ({ U with heap := s₂.heap, slotsUsed := s₂.slotsUsed } : State) L mc ms := by
      refine ⟨?_, q2, q3, q4, q5, q6⟩
      obtain ⟨t, ht, -⟩ := State.frames_cons hr
      show ({ U with heap := s₂.heap, slotsUsed := s₂.slotsUsed } : State) = { U.setFrames U.frames with heap := s₂.heap, slotsUsed := s₂.slotsUsed }
      rw [State.setFrames_self ht]
    subst hg
    refine Or.inr ⟨q, ⟨(({ U with heap := s₂.heap, slotsUsed := s₂.slotsUsed } : State).setVm s₂.vm), Ls ++ L, c0 + mc, s0 + ms⟩,
      ⟨X.admits, X.cas, X.clock, X.frames, X.room, X.hears, X.method, X.code, (X.here.setHeapUsed s₂.heap s₂.slotsUsed).setVm hW'.alike, X.tail, State.WarmedH.trans X.warmed hW', X.limits, X.bytes, X.same.trans (hsame.setVm s.vm)⟩,
      ⟨g, mk, s₂, L, E, ce, rfl, rfl, hx, hce, hcv, hcl, rfl, hL, rfl, rfl⟩, ?_⟩
    show Steps p.tables e below _ (((({ U with heap := s₂.heap, slotsUsed := s₂.slotsUsed } : State).setVm s₂.vm).setTop g).pushFrame (.throwing q))
    rw [← hs₂]
    exact hsteps
end
variable {p : Program} {l : Launch} {e : Env} {R : Room} {s : State} {m : MethodId} {args : Array Value} {below : List Frame} {meth : Method} {c : Code} {T : State} {H : Heap} {locs : List Loc} {cells slots : Nat}
theorem vx_callVX (X : Stand p l e R s m args below meth c T locs cells slots) (hexec : p.tables.exec = Jvm.exec) {own C : String} {index : Nat} {y : MethodName} {bytes : ByteArray} {maxL : Nat} {ret : Option FieldType} {hh : List (Nat × Nat × Nat × Nat)}
    (hown : s.vm.findClass own = some m.cls) (hlink : (Cond.methodLink own index y).before args s = true) (hinst : (Cond.instanceMethod y).before args s = true) (hsel : (Cond.selects C y y).before args s = true)
    (hcode : (Cond.codeWith y bytes maxL ret hh).before args s = true) (hy : y.cls ≠ "java/lang/invoke/MethodHandle" ∧ y.cls ≠ "java/lang/invoke/VarHandle")
    {W9 : Nat} {Pre : Pt → Array Value → Prop} {Post : Pt → Array Value → Option Value → Pt → Prop} {PostX : Pt → Array Value → Addr → Pt → Prop} (hK : vx_Back l R p e below s args y 3 W9 Pre Post PostX)
    {b : Addr} {cellB : Cell} (hcell : T.heap[b]? = some cellB) (hobj : cellB.vm.isStatics = false) (hcls : s.vm.findClass C = some cellB.cls)
    {g : JFrame} (hg : g.method = m) (hsize : g.locals.size = c.maxLocals) {argsL rest : List Value} (hlen : ∀ sig, parseMethodDescriptor y.desc = some sig → argsL.length = sig.parameters.length)
    (hstack : g.stack = argsL.reverse ++ .ref b :: rest) (hW : 2 * g.monitorRoom + (rest.map fun v => v.category).sum ≤ W9) (hdg : decode c.code g.pc = .ok (.invokevirtual index, 3))
    (hpre : ∀ vm₁, s.WarmedH vm₁ → Pre ⟨T.setVm vm₁, locs, cells, slots⟩ (Value.ref b :: argsL).toArray) :
    (∃ (v : Option Value) (vm₁ : Vm) (B : Pt), s.WarmedH vm₁ ∧ Stand p l e R s m args below meth c B.U B.locs B.cells B.slots ∧ Post ⟨T.setVm vm₁, locs, cells, slots⟩ (Value.ref b :: argsL).toArray v B ∧
      ∀ target, Steps p.tables e below (B.U.setTop { g with pc := g.pc + 3, stack := v.toList ++ rest }) target → Steps p.tables e below (T.setTop g) target) ∨
    (∃ (q : Addr) (vm₁ : Vm) (B : Pt), s.WarmedH vm₁ ∧ Stand p l e R s m args below meth c B.U B.locs B.cells B.slots ∧ PostX ⟨T.setVm vm₁, locs, cells, slots⟩ (Value.ref b :: argsL).toArray q B ∧
      Steps p.tables e below (T.setTop g) ((B.U.setTop { g with stack := rest }).pushFrame (.throwing q))) := by
  obtain ⟨mk, methM, hnamed, hmethM, hstM, habM⟩ := Cond.instanceMethod_spec hinst
  obtain ⟨m8, methM', cM, hn8, hmethM', -, -, -, -, -, -, hsigM⟩ := Cond.codeWith_spec hcode
  cases Option.some.inj (hn8.symm.trans hnamed)
  cases hmethM.symm.trans hmethM'
  obtain ⟨c2, r2, m2, q1, q2, q3, q4, kP, hkP, hkPi⟩ := Cond.selects_spec hsel
  cases hcls.symm.trans q1
  cases (State.methodFound?_of_named hnamed hy).symm.trans q2
  cases hnamed.symm.trans q3
  have hselP : selectMethod e.platform s.vm cellB.cls mk = .method mk := by rw [Launch.admits_selectMethod X.admits]; exact q4
  obtain ⟨vm₁, X₁, hstep₁⟩ := X.invokevirtual hexec hown hlink hnamed hmethM hstM hkP hkPi hy (a := b) (cell := cellB) hcell
    (fun z h => by rw [h] at hobj; cases hobj) hselP hmethM habM hkP hkPi (g := g) hg (argsL := argsL) (rest := rest) (hlen _ hsigM) hstack hdg
  rcases hK m meth c ⟨T.setVm vm₁, locs, cells, slots⟩ { g with stack := rest } (.invokevirtual index) mk (Value.ref b :: argsL).toArray X₁ hg hsize hdg hW (X₁.named hnamed) (hpre vm₁ X₁.warmed) with ⟨v, B, X', hpost, hsteps⟩ | ⟨q, B, X', hpost, hsteps⟩
  · exact Or.inl ⟨v, vm₁, B, X₁.warmed, X', hpost, fun target h => hstep₁ _ fun acts => by rw [doInvoke_state]; exact hsteps.trans h⟩
  · exact Or.inr ⟨q, vm₁, B, X₁.warmed, X', hpost, hstep₁ _ fun acts => by rw [doInvoke_state]; exact hsteps⟩
theorem vx_callSX (X : Stand p l e R s m args below meth c T locs cells slots) (hexec : p.tables.exec = Jvm.exec) {own : String} {index : Nat} {y : MethodName} {bytes : ByteArray} {maxL : Nat} {ret : Option FieldType} {hh : List (Nat × Nat × Nat × Nat)}
    (hown : s.vm.findClass own = some m.cls) (hlink : (Cond.methodLink own index y).before args s = true) (hstat : (Cond.static y).before args s = true) (hinit : (Cond.initialized y.cls).before args s = true)
    (hcode : (Cond.codeWith y bytes maxL ret hh).before args s = true) (hy : y.cls ≠ "java/lang/invoke/MethodHandle" ∧ y.cls ≠ "java/lang/invoke/VarHandle")
    {W9 : Nat} {Pre : Pt → Array Value → Prop} {Post : Pt → Array Value → Option Value → Pt → Prop} {PostX : Pt → Array Value → Addr → Pt → Prop} (hK : vx_Back l R p e below s args y 3 W9 Pre Post PostX)
    {g : JFrame} (hg : g.method = m) (hsize : g.locals.size = c.maxLocals) {argsL rest : List Value} (hlen : ∀ sig, parseMethodDescriptor y.desc = some sig → argsL.length = sig.parameters.length)
    (hstack : g.stack = argsL.reverse ++ rest) (hW : 2 * g.monitorRoom + (rest.map fun v => v.category).sum ≤ W9) (hdg : decode c.code g.pc = .ok (.invokestatic index, 3))
    (hpre : ∀ vm₁, s.WarmedH vm₁ → Pre ⟨T.setVm vm₁, locs, cells, slots⟩ argsL.toArray) :
    (∃ (v : Option Value) (vm₁ : Vm) (B : Pt), s.WarmedH vm₁ ∧ Stand p l e R s m args below meth c B.U B.locs B.cells B.slots ∧ Post ⟨T.setVm vm₁, locs, cells, slots⟩ argsL.toArray v B ∧
      ∀ target, Steps p.tables e below (B.U.setTop { g with pc := g.pc + 3, stack := v.toList ++ rest }) target → Steps p.tables e below (T.setTop g) target) ∨
    (∃ (q : Addr) (vm₁ : Vm) (B : Pt), s.WarmedH vm₁ ∧ Stand p l e R s m args below meth c B.U B.locs B.cells B.slots ∧ PostX ⟨T.setVm vm₁, locs, cells, slots⟩ argsL.toArray q B ∧
      Steps p.tables e below (T.setTop g) ((B.U.setTop { g with stack := rest }).pushFrame (.throwing q))) := by
  obtain ⟨mk, methM, cM, hnamed, hmethM, -, -, -, -, -, -, hsigM⟩ := Cond.codeWith_spec hcode
  have hstatic : methM.isStatic = true := Cond.static_spec hnamed hmethM hstat
  obtain ⟨kP, hkP, -⟩ := className_of_methodNamed hnamed
  have hinitP : kP.init = .initialized := Cond.initialized_spec (findClass_of_methodNamed hnamed) hkP hinit
  obtain ⟨vm₁, X₁, hstep₁⟩ := X.invokestatic hexec hown hlink hnamed hmethM hstatic hkP hinitP hy (g := g) hg (argsL := argsL) (rest := rest) (hlen _ hsigM) hstack hdg
  rcases hK m meth c ⟨T.setVm vm₁, locs, cells, slots⟩ { g with stack := rest } (.invokestatic index) mk argsL.toArray X₁ hg hsize hdg hW (X₁.named hnamed) (hpre vm₁ X₁.warmed) with ⟨v, B, X', hpost, hsteps⟩ | ⟨q, B, X', hpost, hsteps⟩
  · exact Or.inl ⟨v, vm₁, B, X₁.warmed, X', hpost, fun target h => hstep₁ _ fun acts => by rw [doInvoke_state]; exact hsteps.trans h⟩
  · exact Or.inr ⟨q, vm₁, B, X₁.warmed, X', hpost, hstep₁ _ fun acts => by rw [doInvoke_state]; exact hsteps⟩
theorem vx_callVW (X : Stand p l e R s m args below meth c T locs cells slots) (hexec : p.tables.exec = Jvm.exec) {own C : String} {index : Nat} {y : MethodName} {bytes : ByteArray} {maxL : Nat} {ret : Option FieldType} {hh : List (Nat × Nat × Nat × Nat)}
    (hown : s.vm.findClass own = some m.cls) (hlink : (Cond.methodLink own index y).before args s = true) (hinst : (Cond.instanceMethod y).before args s = true) (hsel : (Cond.selects C y y).before args s = true)
    (hcode : (Cond.codeWith y bytes maxL ret hh).before args s = true) (hy : y.cls ≠ "java/lang/invoke/MethodHandle" ∧ y.cls ≠ "java/lang/invoke/VarHandle")
    {W9 : Nat} {Pre : Pt → Array Value → Prop} {Post : Pt → Array Value → Option Value → Pt → Prop} (hK : Back l R p e below s args y 3 W9 Pre Post)
    {b : Addr} {cellB : Cell} (hcell : T.heap[b]? = some cellB) (hobj : cellB.vm.isStatics = false) (hcls : s.vm.findClass C = some cellB.cls)
    {g : JFrame} (hg : g.method = m) (hsize : g.locals.size = c.maxLocals) {argsL rest : List Value} (hlen : ∀ sig, parseMethodDescriptor y.desc = some sig → argsL.length = sig.parameters.length)
    (hstack : g.stack = argsL.reverse ++ .ref b :: rest) (hW : 2 * g.monitorRoom + (rest.map fun v => v.category).sum ≤ W9) (hdg : decode c.code g.pc = .ok (.invokevirtual index, 3))
    (hpre : ∀ vm₁, s.WarmedH vm₁ → Pre ⟨T.setVm vm₁, locs, cells, slots⟩ (Value.ref b :: argsL).toArray) :
    ∃ (v : Option Value) (vm₁ : Vm) (B : Pt), s.WarmedH vm₁ ∧ Stand p l e R s m args below meth c B.U B.locs B.cells B.slots ∧ Post ⟨T.setVm vm₁, locs, cells, slots⟩ (Value.ref b :: argsL).toArray v B ∧
      ∀ target, Steps p.tables e below (B.U.setTop { g with pc := g.pc + 3, stack := v.toList ++ rest }) target → Steps p.tables e below (T.setTop g) target := by
  obtain ⟨mk, methM, hnamed, hmethM, hstM, habM⟩ := Cond.instanceMethod_spec hinst
  obtain ⟨m8, methM', cM, hn8, hmethM', -, -, -, -, -, -, hsigM⟩ := Cond.codeWith_spec hcode
  cases Option.some.inj (hn8.symm.trans hnamed)
  cases hmethM.symm.trans hmethM'
  obtain ⟨c2, r2, m2, q1, q2, q3, q4, kP, hkP, hkPi⟩ := Cond.selects_spec hsel
  cases hcls.symm.trans q1
  cases (State.methodFound?_of_named hnamed hy).symm.trans q2
  cases hnamed.symm.trans q3
  have hselP : selectMethod e.platform s.vm cellB.cls mk = .method mk := by rw [Launch.admits_selectMethod X.admits]; exact q4
  obtain ⟨vm₁, X₁, hstep₁⟩ := X.invokevirtual hexec hown hlink hnamed hmethM hstM hkP hkPi hy (a := b) (cell := cellB) hcell
    (fun z h => by rw [h] at hobj; cases hobj) hselP hmethM habM hkP hkPi (g := g) hg (argsL := argsL) (rest := rest) (hlen _ hsigM) hstack hdg
  obtain ⟨v, B, X', hpost, hsteps⟩ := hK m meth c ⟨T.setVm vm₁, locs, cells, slots⟩ { g with stack := rest } (.invokevirtual index) mk (Value.ref b :: argsL).toArray X₁ hg hsize hdg hW (X₁.named hnamed) (hpre vm₁ X₁.warmed)
  exact ⟨v, vm₁, B, X₁.warmed, X', hpost, fun target h => hstep₁ _ fun acts => by rw [doInvoke_state]; exact hsteps.trans h⟩
abbrev vx_CVW (R : Room) (s : State) (args : Array Value) (own C : String) (index : Nat) (y : MethodName) (bytes : ByteArray) (maxL : Nat) (ret : Option FieldType) (hh : List (Nat × Nat × Nat × Nat)) (ws : List Cond) (rm : Room) (mc ms n : Nat) : Prop :=
  (rm.cells = mc ∧ rm.slots = ms ∧ rm.frames + 1 ≤ R.frames ∧ 8 + (maxL + 11) + rm.locals ≤ R.locals ∧ (∀ w ∈ ws, ∀ (a' : Array Value) (U : State), s.WarmedH U.vm → w.before a' U = true) ∧ Cond.codeWith y bytes maxL ret hh ∈ ws) ∧
  (Cond.codeWith y bytes maxL ret hh).before args s = true ∧ (Cond.initialized y.cls).before args s = true ∧ (y.cls ≠ "java/lang/invoke/MethodHandle" ∧ y.cls ≠ "java/lang/invoke/VarHandle") ∧
  (∀ sig, parseMethodDescriptor y.desc = some sig → n = sig.parameters.length) ∧ (Cond.methodLink own index y).before args s = true ∧ (Cond.instanceMethod y).before args s = true ∧ (Cond.selects C y y).before args s = true
theorem vx_cwVW {own C : String} {index maxL mc ms : Nat} {y : MethodName} {bytes : ByteArray} {ret : Option FieldType} {hh : List (Nat × Nat × Nat × Nat)} {Ts ws ws' : List Cond} {rm : Room} (n : Nat) (ht : ∀ w ∈ Ts, w.before args s = true) (hT : GoodIn Ts (wsV own index C y ws)) (hw : ws = Cond.codeWith y bytes maxL ret hh :: ws') (hrc : rm.cells = mc) (hrs : rm.slots = ms)
    (hd : y.cls = C ∧ y.cls ≠ "java/lang/invoke/MethodHandle" ∧ y.cls ≠ "java/lang/invoke/VarHandle" ∧ (parseMethodDescriptor y.desc).map (fun d => d.parameters.length) = some n) (hR : rm.frames + 1 ≤ R.frames ∧ 8 + (maxL + 11) + rm.locals ≤ R.locals) :
    vx_CVW R s args own C index y bytes maxL ret hh ws rm mc ms n := by
  obtain ⟨hC, hd⟩ := hd
  subst hC
  have ok : ∀ w ∈ wsV own index y.cls y ws, w.before args s = true := fun w h => ht w (hT w h).1
  have hG : GoodIn Ts ws := fun w h => hT w (by unfold wsV; exact List.mem_append_right _ h)
  have hc : Cond.codeWith y bytes maxL ret hh ∈ ws := by rw [hw]; exact List.mem_cons_self
  refine ⟨⟨hrc, hrs, hR.1, hR.2, pay_in ht hG, hc⟩, ht _ (hG _ hc).1, ok _ (by simp [wsV]), ⟨hd.1, hd.2.1⟩, fun sig h => ?_, ok _ (by simp [wsV]), ok _ (by simp [wsV]), ok _ (by simp [wsV])⟩
  have h2 := hd.2.2
  rw [h] at h2
  exact (Option.some.inj h2).symm
theorem vx_runVW {y : MethodName} {bytes cc : ByteArray} {maxL nL mc ms n index : Nat} {ret : Option FieldType} {hh : List (Nat × Nat × Nat × Nat)} {ws : List Cond} {rm : Room} {Pc : Array Value → State → Prop} {Qc : Array Value → State → Outcome → State → Prop} {free : Addr → Prop} {Ts : List Cond} {own C : String} {b : Addr} {As rest : List Value} {g : JFrame}
    (S : CallFix p m c cc nL s args Ts own) (hM : Met l y ws rm Pc Qc mc ms free) (cw : vx_CVW R s args own C index y bytes maxL ret hh ws rm mc ms n) (hp : PreV s H C b Pc As)
    (hg : g.method = m) (hn : As.length = n) (hsize : g.locals.size = nL) (hstack : g.stack = As.reverse ++ .ref b :: rest) (hW : 2 * g.monitorRoom + (rest.map fun v => v.category).sum ≤ 8) (hdg : decode cc g.pc = .ok (.invokevirtual index, 3)) (hf : cells + mc ≤ R.cells ∧ slots + ms ≤ R.slots) :
    va_Run p l e R s m args below meth c H locs cells slots mc ms g rest (Qc (Value.ref b :: As).toArray) free := by
  obtain ⟨⟨hrc, hrs, hfr, hlo, hws, hcw⟩, hcode, hini, hy, hlen, hl, hin, hse⟩ := cw
  have hK : Back l R p e below s args y 3 8 (PreOf R mc ms Pc) (PostOf Qc mc ms free) := va_backW (hh := hh) (bytes := bytes) (maxL := maxL) (ret := ret) hM hp.1 hrc hrs hfr hlo hws hcw (fun a' U hW => word_at hW (Or.inl (by first | rfl | simp [Cond.onTables, Cond.keeps, Cond.steady])) hini)
  obtain ⟨hx, hb, hml, ho, -⟩ := S
  obtain ⟨-, ⟨cellB, hcB, hoB, hclB⟩, hPc⟩ := hp
  intro T hT X
  obtain ⟨v, vm₁, ⟨U', l2, c2, s2⟩, hW₁, X', ⟨g', mk, t, L, e1, e2, hq, h1, hL, h2, h3⟩, st⟩ := vx_callVW X hx (C := C) (hh := hh) (bytes := bytes) (maxL := maxL) (ret := ret) ho hl hin hse hcode hy hK (by rw [hT]; exact hcB) hoB hclB hg (hsize.trans hml.symm) (argsL := As) (rest := rest) (fun sig h => hn.trans (hlen sig h)) hstack hW (by rw [hb]; exact hdg)
    (fun vm₁ hW₁ => ⟨hf.1, hf.2, hPc (T.setVm vm₁) hT hW₁⟩)
  dsimp only [Pt.U, Pt.locs, Pt.cells, Pt.slots] at X' e1 e2 h1 h2 h3 st
  subst h1; subst h2; subst h3
  exact ⟨v, (T.setVm vm₁).calling g' mk (Value.ref b :: As).toArray, t, U', L, hT, X', hL, e1, e2, hq, st⟩
section
variable {y : MethodName} {bytes cc : ByteArray} {maxL nL mc ms n index : Nat} {ret : Option FieldType} {ws : List Cond} {rm : Room} {Pc : Array Value → State → Prop} {Qc : Array Value → State → Outcome → State → Prop} {XC : String → State → State → Prop} {free : Addr → Prop} {Ts : List Cond} {own C : String} {b : Addr} {As rest : List Value} {g : JFrame}
theorem vx_runVX {hh : List (Nat × Nat × Nat × Nat)} (S : CallFix p m c cc nL s args Ts own) (hM : vx_Met l y ws rm Pc Qc XC mc ms free) (cw : vx_CVW R s args own C index y bytes maxL ret hh ws rm mc ms n) (hp : PreV s H C b Pc As)
    (hg : g.method = m) (hn : As.length = n) (hsize : g.locals.size = nL) (hstack : g.stack = As.reverse ++ .ref b :: rest) (hW : 2 * g.monitorRoom + (rest.map fun v => v.category).sum ≤ 8) (hdg : decode cc g.pc = .ok (.invokevirtual index, 3)) (hf : cells + mc ≤ R.cells ∧ slots + ms ≤ R.slots) :
    vx_Run p l e R s m args below meth c H locs cells slots mc ms g rest (Qc (Value.ref b :: As).toArray) XC free := by
  obtain ⟨⟨hrc, hrs, hfr, hlo, hws, hcw⟩, hcode, hini, hy, hlen, hl, hin, hse⟩ := cw
  have hK : vx_Back l R p e below s args y 3 8 (PreOf R mc ms Pc) (PostOf Qc mc ms free) (vx_Post XC mc ms free) := vx_backW (hh := hh) (bytes := bytes) (maxL := maxL) (ret := ret) hM hp.1 hrc hrs hfr hlo hws hcw (fun a' U hW => word_at hW (Or.inl (by first | rfl | simp [Cond.onTables, Cond.keeps, Cond.steady])) hini)
  obtain ⟨hx, hb, hml, ho, -⟩ := S
  obtain ⟨-, ⟨cellB, hcB, hoB, hclB⟩, hPc⟩ := hp
  intro T hT X
  rcases vx_callVX X hx (C := C) (hh := hh) (bytes := bytes) (maxL := maxL) (ret := ret) ho hl hin hse hcode hy hK (by rw [hT]; exact hcB) hoB hclB hg (hsize.trans hml.symm) (argsL := As) (rest := rest) (fun sig h => hn.trans (hlen sig h)) hstack hW (by rw [hb]; exact hdg)
    (fun vm₁ hW₁ => ⟨hf.1, hf.2, hPc (T.setVm vm₁) hT hW₁⟩) with ⟨v, vm₁, ⟨U', l2, c2, s2⟩, hW₁, X', ⟨g', mk, t, L, e1, e2, hq, h1, hL, h2, h3⟩, st⟩ | ⟨q, vm₁, ⟨U', l2, c2, s2⟩, hW₁, X', ⟨g', mk, t, L, E, ce, e1, e2, hq, hce, hcv, hcl, h1, hL, h2, h3⟩, st⟩
  · dsimp only [Pt.U, Pt.locs, Pt.cells, Pt.slots] at X' e1 e2 h1 h2 h3 st
    subst h1; subst h2; subst h3
    exact Or.inl ⟨v, (T.setVm vm₁).calling g' mk (Value.ref b :: As).toArray, t, U', L, hT, X', hL, e1, e2, hq, st⟩
  · dsimp only [Pt.U, Pt.locs, Pt.cells, Pt.slots] at X' e1 e2 h1 h2 h3 st hcl
    subst h1; subst h2; subst h3
    exact Or.inr ⟨q, (T.setVm vm₁).calling g' mk (Value.ref b :: As).toArray, t, U', L, E, ce, hT, X', hL, e1, e2, hq, hce, hcv, vx_cls hW₁ hcl, st⟩
theorem vx_runSX {hh : List (Nat × Nat × Nat × Nat)} (S : CallFix p m c cc nL s args Ts own) (hM : vx_Met l y ws rm Pc Qc XC mc ms free) (cw : vx_CSW R s args own index y bytes maxL ret hh ws rm mc ms n) (hp : PreS s H Pc As)
    (hg : g.method = m) (hn : As.length = n) (hsize : g.locals.size = nL) (hstack : g.stack = As.reverse ++ rest) (hW : 2 * g.monitorRoom + (rest.map fun v => v.category).sum ≤ 8) (hdg : decode cc g.pc = .ok (.invokestatic index, 3)) (hf : cells + mc ≤ R.cells ∧ slots + ms ≤ R.slots) :
    vx_Run p l e R s m args below meth c H locs cells slots mc ms g rest (Qc As.toArray) XC free := by
  obtain ⟨⟨hrc, hrs, hfr, hlo, hws, hcw⟩, hcode, hini, hy, hlen, hl, hstt⟩ := cw
  have hK : vx_Back l R p e below s args y 3 8 (PreOf R mc ms Pc) (PostOf Qc mc ms free) (vx_Post XC mc ms free) := vx_backW (hh := hh) (bytes := bytes) (maxL := maxL) (ret := ret) hM hp.1 hrc hrs hfr hlo hws hcw (fun a' U hW => word_at hW (Or.inl (by first | rfl | simp [Cond.onTables, Cond.keeps, Cond.steady])) hini)
  obtain ⟨hx, hb, hml, ho, -⟩ := S
  intro T hT X
  rcases vx_callSX X hx (hh := hh) (bytes := bytes) (maxL := maxL) (ret := ret) ho hl hstt hini hcode hy hK hg (hsize.trans hml.symm) (argsL := As) (rest := rest) (fun sig h => hn.trans (hlen sig h)) hstack hW (by rw [hb]; exact hdg)
    (fun vm₁ hW₁ => ⟨hf.1, hf.2, hp.2 (T.setVm vm₁) hT hW₁⟩) with ⟨v, vm₁, ⟨U', l2, c2, s2⟩, hW₁, X', ⟨g', mk, t, L, e1, e2, hq, h1, hL, h2, h3⟩, st⟩ | ⟨q, vm₁, ⟨U', l2, c2, s2⟩, hW₁, X', ⟨g', mk, t, L, E, ce, e1, e2, hq, hce, hcv, hcl, h1, hL, h2, h3⟩, st⟩
  · dsimp only [Pt.U, Pt.locs, Pt.cells, Pt.slots] at X' e1 e2 h1 h2 h3 st
    subst h1; subst h2; subst h3
    exact Or.inl ⟨v, (T.setVm vm₁).calling g' mk As.toArray, t, U', L, hT, X', hL, e1, e2, hq, st⟩
  · dsimp only [Pt.U, Pt.locs, Pt.cells, Pt.slots] at X' e1 e2 h1 h2 h3 st hcl
    subst h1; subst h2; subst h3
    exact Or.inr ⟨q, (T.setVm vm₁).calling g' mk As.toArray, t, U', L, E, ce, hT, X', hL, e1, e2, hq, hce, hcv, vx_cls hW₁ hcl, st⟩
end
end VXH
theorem vx_ofWH {l : Launch} {y : MethodName} {ws ws' : List Cond} {rm : Room} {Pc : Array Value → State → Prop} {Qc : Array Value → State → Outcome → State → Prop} {XC : String → State → State → Prop} {mc ms : Nat} {free : Addr → Prop} {cc : ByteArray} {maxL : Nat} {ret : Option FieldType} {hh : List (Nat × Nat × Nat × Nat)}
    (hy : plainName y.cls = true) (hw : ws = Cond.codeWith y cc maxL ret hh :: ws')
    (body : ∀ p e s m args below meth c s₁, BodyLoose p l y (headSpec ws rm) cc maxL ret e s m args below meth c s₁ → c.maxLocals = maxL → Pc args s →
      W p l e (headSpec ws rm).room s m args below meth c s.heap [] 0 0 (vx_MQ below Qc XC args s mc ms free) (entryFrame m args maxL)) : vx_Met l y ws rm Pc Qc XC mc ms free := by
  refine MetFree.of_bodyS (code := cc) (maxLocals := maxL) (ret := ret) hy ?_ ?_
  · intro args s m h hn
    obtain ⟨m9, meth, c, hn9, h1, h2, h3, h4, -, h5, h6, -⟩ := Cond.codeWith_spec (atoms_spec (ws := ws) h _ (by rw [hw]; exact List.mem_cons_self))
    cases hn.symm.trans hn9
    exact ⟨meth, c, h1, h2, h3, h4, h5, h6⟩
  · intro p e s m args below meth c s₁ B hml hP _
    have hh0 : s₁.heap = s.heap := by rw [B.state]; rfl
    obtain ⟨t, a1, o, b1, b2, b3⟩ := body p e s m args below meth c s₁ B hml hP s₁ hh0 (Stand.of_body B)
    exact ⟨t, o, a1, b1, b2, b3⟩
/-! ===== END ===== -/
end
section
/-! A handler's table searched past rows that name other types: own rows, over the library's base alone. -/
theorem hc_row {Q : Handler → Pre} {E : CtlPost} {e : Env} {d : Bool} {acts : List Action} {S : State} {f : JFrame} {a : Addr} {x : ExceptionTableEntry} {t : List ExceptionTableEntry} {k : ClassId} {cell : Cell}
    (hx : covers x f.pc = true) (h0 : x.catchType ≠ 0) (hl : S.vm.ClassLinks e.platform f.method.cls x.catchType k) (hcell : S.heap[a]? = some cell) (hobj : ∀ j, cell.vm ≠ .statics j)
    (hk : ∃ j, S.vm.classes[cell.cls]? = some j) (hc : ∃ j, S.vm.classes[k]? = some j) :
    wp (findHandler.go f a (x :: t)) Q E e d acts S ↔ if S.vm.assignable cell.cls k = true then Q (.found x.handlerPc) d acts (S.setVm (S.vm.noted f.method.cls x.catchType (.cls k))) else wp (findHandler.go f a t) Q E e d acts (S.setVm (S.vm.noted f.method.cls x.catchType (.cls k))) := by
  simp only [covers] at hx
  obtain ⟨ha, ht⟩ := (resolveClass_links e.toSetting hl).op (op := VmOp.resolveClass f.method.cls x.catchType) rfl
  have hal : S.vm.Alike (S.vm.noted f.method.cls x.catchType (.cls k)) := (Vm.Alike.refl S.vm).noted _ _ _
  obtain ⟨k1, hk1⟩ := hk
  obtain ⟨k2, hk2⟩ := hc
  obtain ⟨k1', hk1', -⟩ := hal.2.2 _ _ hk1
  obtain ⟨k2', hk2', -⟩ := hal.2.2 _ _ hk2
  have he : (S.vm.noted f.method.cls x.catchType (.cls k)).assignable cell.cls k = S.vm.assignable cell.cls k := by rw [hal.assignable]
  cases hfit : S.vm.assignable cell.cls k <;> rw [hfit] at he <;>
    simp [findHandler.go, hx, h0, ha, ht, hcell, hobj, hk1', hk2', he, VmOp.dirties, VmOp.acts]
/-- a row of a table that doesn't take the thrown object -/
def hc_pass (pl : Platform) (s : State) (d : ClassId) (pc : Nat) (thrown : ClassId) (y : ExceptionTableEntry) : Prop :=
  covers y pc = false ∨ (y.catchType ≠ 0 ∧ ∃ k, s.vm.ClassLinks pl d y.catchType k ∧ s.vm.assignable thrown k = false)
theorem hc_go {e : Env} {s : State} {f : JFrame} {a : Addr} {cell : Cell} (hobj : ∀ j, cell.vm ≠ .statics j) (hk0 : ∃ j, s.vm.classes[cell.cls]? = some j)
    (x : ExceptionTableEntry) (suf : List ExceptionTableEntry) (hx : covers x f.pc = true) (h0 : x.catchType ≠ 0) {k : ClassId} (hl : s.vm.ClassLinks e.platform f.method.cls x.catchType k) (hfit : s.vm.assignable cell.cls k = true) :
    ∀ (pre : List ExceptionTableEntry) (S : State), s.WarmedH S.vm → S.heap[a]? = some cell → (∀ y ∈ pre, hc_pass e.platform s f.method.cls f.pc cell.cls y) →
      ∃ vm', s.WarmedH vm' ∧ ∀ (Q : Handler → Pre) (E : CtlPost) (d : Bool) (acts : List Action), wp (findHandler.go f a (pre ++ x :: suf)) Q E e d acts S ↔ Q (.found x.handlerPc) d acts (S.setVm vm') := by
  obtain ⟨k0, hk0⟩ := hk0
  intro pre
  induction pre with
  | nil =>
    intro S hW hcell _
    obtain ⟨k0', hk0', -⟩ := hW.alike.2.2 _ _ hk0
    obtain ⟨dk, _, _, kt, hd, _, _, _, _, hkt, _, hop⟩ := hl.here
    obtain ⟨kt', hkt', -⟩ := hW.alike.2.2 _ _ hkt
    refine ⟨_, hW.noted hd hop (State.rightAt_cls hl), fun Q E d acts => ?_⟩
    rw [List.nil_append, hc_row hx h0 (hW.classLinks hl) hcell hobj ⟨k0', hk0'⟩ ⟨kt', hkt'⟩, if_pos (by rw [hW.alike.assignable]; exact hfit)]
  | cons y ys ih =>
    intro S hW hcell hpass
    obtain ⟨k0', hk0', -⟩ := hW.alike.2.2 _ _ hk0
    have hrest : ∀ z ∈ ys, hc_pass e.platform s f.method.cls f.pc cell.cls z := fun z hz => hpass z (List.mem_cons_of_mem _ hz)
    by_cases hcov : covers y f.pc = true
    · rcases hpass y (List.mem_cons_self ..) with h | ⟨g0, c, gl, hno⟩
      · rw [h] at hcov; cases hcov
      · obtain ⟨dk, _, _, kt, hd, _, _, _, _, hkt, _, hop⟩ := gl.here
        obtain ⟨kt', hkt', -⟩ := hW.alike.2.2 _ _ hkt
        obtain ⟨vm', hW', hq⟩ := ih (S.setVm (S.vm.noted f.method.cls y.catchType (.cls c))) (hW.noted hd hop (State.rightAt_cls gl)) hcell hrest
        refine ⟨vm', hW', fun Q E d acts => ?_⟩
        rw [List.cons_append, hc_row hcov g0 (hW.classLinks gl) hcell hobj ⟨k0', hk0'⟩ ⟨kt', hkt'⟩, if_neg (by rw [hW.alike.assignable, hno]; exact Bool.false_ne_true)]
        exact hq Q E d acts
    · obtain ⟨vm', hW', hq⟩ := ih S hW hcell hrest
      refine ⟨vm', hW', fun Q E d acts => ?_⟩
      rw [List.cons_append, W.findHandler_go_skip (by simpa using hcov)]
      exact hq Q E d acts
theorem hc_frames (u : State) (vm' : Vm) (F G : List Frame) : ((u.setFrames F).setVm vm').setFrames G = (u.setVm vm').setFrames G := by
  have h1 : (u.setFrames F).setVm vm' = (u.setVm vm').setFrames F := rfl
  rw [h1, State.setFrames_setFrames]
theorem hc_step {e : Env} {s : State} {a : Addr} {f : JFrame} {r : List Frame} {pc : Nat} {vm' : Vm} (hfind : ∀ (Q : Handler → Pre) (E : CtlPost) (d : Bool) (acts : List Action), wp (findHandler f a) Q E e d acts s ↔ Q (.found pc) d acts (s.setVm vm')) :
    (stepThrowing e s a (.java f :: r)).Is ((s.setVm vm').setFrames (.java { f with pc := pc, stack := [.ref a] } :: r)) [] := by
  simp only [stepThrowing, searchFrame, vmDo]
  generalize hr : Sem.go _ e false [] s = res
  obtain ⟨as, rfl, ha⟩ := Sem.eq_ok_of hr (a := Handler.found pc) (s' := s.setVm vm') (acts' := []) (by simp [hfind])
  exact ⟨rfl, ha⟩
theorem hc_caught {tb : Tables} {e : Env} {s target : State} {g : JFrame} {c : Code} {below : List Frame} {a : Addr} (h : At s g.method c below) {pc : Nat} {vm' : Vm}
    (hfind : ∀ (Q : Handler → Pre) (E : CtlPost) (d : Bool) (acts : List Action), wp (findHandler g a) Q E e d acts ((s.setTop g).pushFrame (.throwing a)) ↔ Q (.found pc) d acts (((s.setTop g).pushFrame (.throwing a)).setVm vm'))
    (hrest : Steps tb e below ((s.setVm vm').setTop { g with pc := pc, stack := [.ref a] }) target) :
    Steps tb e below ((s.setTop g).pushFrame (.throwing a)) target := by
  obtain ⟨hgo, hw⟩ := h.throwing a
  refine Steps.head hgo hw ?_
  rw [stepThread_throwing (frames_entered h.top _), (hc_step (s := (s.setTop g).pushFrame (.throwing a)) hfind).1]
  obtain ⟨g₀, hg⟩ := Option.isSome_iff_exists.mp h.top
  obtain ⟨r, hr⟩ := State.topJava?_eq_some.mp hg
  have hr' : (s.setVm vm').frames = .java g₀ :: r := hr
  rw [State.setTop_of_frames _ hr'] at hrest
  rw [hr, List.tail_cons, State.pushFrame, hc_frames, State.setTop_of_frames _ hr, hc_frames]
  exact hrest
/-- caught by the row x of this method's table; the rows ahead don't take it -/
theorem hx_catch {p : Program} {l : Launch} {e : Env} {R : Room} {s : State} {m : MethodId} {args : Array Value} {below : List Frame} {meth : Method} {c : Code} {H : Heap} {locs : List Loc} {cells slots : Nat} {Q : State → Prop} {pc : Nat} {ls : Array Slot} {rest : List Value}
    {own name : String} {E : String} {ce : Cell} {q : Addr} (hown : s.vm.findClass own = some m.cls) (pre : List ExceptionTableEntry) (x : ExceptionTableEntry) (suf : List ExceptionTableEntry) (hsplit : c.exceptionTable.toList = pre ++ x :: suf)
    (hpass : ∀ z ∈ pre, covers z pc = false ∨ (z.catchType ≠ 0 ∧ ∃ nm : String, (Cond.classLink own z.catchType nm).before args s = true ∧ va_Nc E nm s)) (hx : covers x pc = true) (h0 : x.catchType ≠ 0)
    (hlink : (Cond.classLink own x.catchType name).before args s = true) (hcast : (Cond.castable E name).before args s = true) (hcell : H[q]? = some ce) (hv : ce.vm = .none) (hcl : s.vm.findClass E = some ce.cls)
    (kk : W p l e R s m args below meth c H locs cells slots Q (F0 m x.handlerPc ls [.ref q])) : vx_W p l e R s m args below meth c H locs cells slots Q (F0 m pc ls rest) q := by
  intro T hT X
  have hpl : e.platform.magicAccessors = ({} : Platform).magicAccessors := by rw [X.admits.platform]
  obtain ⟨c3, c4, hc3, hc4, hasg⟩ := Cond.castable_spec hcast
  cases Option.some.inj (hc3.symm.trans hcl)
  obtain ⟨c5, hc5, hcl5⟩ := Cond.classLink_spec hown hlink e.platform hpl
  cases Option.some.inj (hc4.symm.trans hc5)
  have hk9 : ∃ j, s.vm.classes[ce.cls]? = some j := by
    obtain ⟨k9, h9, -⟩ := Vm.findClass_spec hcl
    exact ⟨k9, h9⟩
  obtain ⟨vm', hW', hf⟩ := hc_go (e := e) (s := s) (f := F0 m pc ls rest) (a := q) (cell := ce) (fun j h => by rw [hv] at h; cases h) hk9 x suf hx h0 hcl5 hasg pre ((T.setTop (F0 m pc ls rest)).pushFrame (.throwing q)) X.warmed (by rw [← hT] at hcell; exact hcell)
    (fun z hz => by
      rcases hpass z hz with h | ⟨hz0, nm, hl1, hn1⟩
      · exact Or.inl h
      · obtain ⟨c6, hc6, hcl6⟩ := Cond.classLink_spec hown hl1 e.platform hpl
        obtain ⟨a8, b8, h1, h2, h3⟩ := hn1
        cases Option.some.inj (h1.symm.trans hcl)
        cases Option.some.inj (h2.symm.trans hc6)
        exact Or.inr ⟨hz0, _, hcl6, h3⟩)
  obtain ⟨t, a1, b1⟩ := kk (T.setVm vm') hT (X.noted hW')
  refine ⟨t, ?_, b1⟩
  refine hc_caught (g := F0 m pc ls rest) X.here (fun Q E d acts => ?_) a1
  rw [W.findHandler_eq (meth := meth) (code := c) X.method' X.code, hsplit]
  exact hf Q E d acts
end
section
/-! ===== BEGIN printed: names, fields, word lists, decode rows ===== -/
def RX0 : String := "NoticeStations$Letter"
def TX0 : u_T := fun k => match k with
  | 0 => ("NoticeStations$Letter", "kind", "I", true)
  | 1 => ("NoticeStations$Letter", "from", "I", true)
  | 2 => ("NoticeStations$Letter", "to", "I", true)
  | 3 => ("NoticeStations$Letter", "number", "I", true)
  | _ => ("NoticeStations$Letter", "standing", "LNoticeStations$Standing;", true)
def tyX0 : Nat → FieldType := fun k => match k with
  | 0 => .int
  | 1 => .int
  | 2 => .int
  | 3 => .int
  | _ => .object "NoticeStations$Standing"
abbrev wsX00 : List Cond := u_ws RX0 TX0 5
theorem nmX0 : ∀ a, a < 5 → ∀ b, b < 5 → a ≠ b → (TX0 a).2.1 ≠ (TX0 b).2.1 := by decide +kernel
theorem tyX0_ok : ∀ k, k < 5 → parseFieldDescriptor (TX0 k).2.2.1 = some (tyX0 k) := by decide +kernel
abbrev cX0_init : ByteArray := prog_2_method_1_code
def yX0_init : MethodName := ⟨RX0, "<init>", "(IIIILNoticeStations$Standing;)V"⟩
abbrev cX0_goesOnFrom : ByteArray := prog_2_method_2_code
def yX0_goesOnFrom : MethodName := ⟨RX0, "goesOnFrom", "(LNoticeStations$Standing;)Z"⟩
abbrev cX0_bookLength : ByteArray := prog_2_method_3_code
def yX0_bookLength : MethodName := ⟨RX0, "bookLength", "()I"⟩
def RX1 : String := "NoticeStations$OpenWrite"
def TX1 : u_T := fun k => match k with
  | 0 => ("NoticeStations$OpenWrite", "number", "I", true)
  | 1 => ("NoticeStations$OpenWrite", "entry", "I", true)
  | 2 => ("NoticeStations$OpenWrite", "granted", "[LNoticeStations$Standing;", true)
  | 3 => ("NoticeStations$OpenWrite", "prepared", "[Z", true)
  | _ => ("NoticeStations$OpenWrite", "next", "LNoticeStations$Standing;", false)
def tyX1 : Nat → FieldType := fun k => match k with
  | 0 => .int
  | 1 => .int
  | 2 => .array (.object "NoticeStations$Standing")
  | 3 => .array .boolean
  | _ => .object "NoticeStations$Standing"
abbrev wsX10 : List Cond := u_ws RX1 TX1 5
theorem nmX1 : ∀ a, a < 5 → ∀ b, b < 5 → a ≠ b → (TX1 a).2.1 ≠ (TX1 b).2.1 := by decide +kernel
theorem tyX1_ok : ∀ k, k < 5 → parseFieldDescriptor (TX1 k).2.2.1 = some (tyX1 k) := by decide +kernel
abbrev cX1_init : ByteArray := prog_3_method_1_code
def yX1_init : MethodName := ⟨RX1, "<init>", "(II)V"⟩
abbrev cX1_isCollecting : ByteArray := prog_3_method_2_code
def yX1_isCollecting : MethodName := ⟨RX1, "isCollecting", "()Z"⟩
abbrev cX1_isOfGroup : ByteArray := prog_3_method_3_code
def yX1_isOfGroup : MethodName := ⟨RX1, "isOfGroup", "(I)Z"⟩
abbrev cX1_awaits : ByteArray := prog_3_method_4_code
def yX1_awaits : MethodName := ⟨RX1, "awaits", "(I)Z"⟩
abbrev cX1_awaited : ByteArray := prog_3_method_5_code
def yX1_awaited : MethodName := ⟨RX1, "awaited", "()I"⟩
abbrev cX1_groupSize : ByteArray := prog_3_method_6_code
def yX1_groupSize : MethodName := ⟨RX1, "groupSize", "()I"⟩
abbrev cX1_leastOfGroup : ByteArray := prog_3_method_7_code
def yX1_leastOfGroup : MethodName := ⟨RX1, "leastOfGroup", "()I"⟩
abbrev cX1_prepareFrom : ByteArray := prog_3_method_8_code
def yX1_prepareFrom : MethodName := ⟨RX1, "prepareFrom", "(LNoticeStations$Standing;I)V"⟩
def RX2 : String := "NoticeStations$Standing"
def TX2 : u_T := fun k => match k with
  | 0 => ("NoticeStations$Standing", "entries", "[I", true)
  | 1 => ("NoticeStations$Standing", "numbers", "[I", true)
  | 2 => ("NoticeStations$Standing", "size", "I", true)
  | _ => ("NoticeStations$Standing", "named", "I", true)
def tyX2 : Nat → FieldType := fun k => match k with
  | 0 => .array .int
  | 1 => .array .int
  | 2 => .int
  | _ => .int
abbrev wsX20 : List Cond := u_ws RX2 TX2 4
theorem nmX2 : ∀ a, a < 4 → ∀ b, b < 4 → a ≠ b → (TX2 a).2.1 ≠ (TX2 b).2.1 := by decide +kernel
theorem tyX2_ok : ∀ k, k < 4 → parseFieldDescriptor (TX2 k).2.2.1 = some (tyX2 k) := by decide +kernel
abbrev cX2_init : ByteArray := prog_4_method_1_code
def yX2_init : MethodName := ⟨RX2, "<init>", "([I[III)V"⟩
abbrev cX2_length : ByteArray := prog_4_method_2_code
def yX2_length : MethodName := ⟨RX2, "length", "()I"⟩
abbrev cX2_hasNoticeAt : ByteArray := prog_4_method_3_code
def yX2_hasNoticeAt : MethodName := ⟨RX2, "hasNoticeAt", "(I)Z"⟩
abbrev cX2_isWithdrawn : ByteArray := prog_4_method_4_code
def yX2_isWithdrawn : MethodName := ⟨RX2, "isWithdrawn", "(I)Z"⟩
abbrev cX2_hasNumber : ByteArray := prog_4_method_5_code
def yX2_hasNumber : MethodName := ⟨RX2, "hasNumber", "(I)Z"⟩
abbrev cX2_goesOnFrom : ByteArray := prog_4_method_6_code
def yX2_goesOnFrom : MethodName := ⟨RX2, "goesOnFrom", "(LNoticeStations$Standing;)Z"⟩
abbrev cX2_followedBy : ByteArray := prog_4_method_7_code
def yX2_followedBy : MethodName := ⟨RX2, "followedBy", "(IIII)LNoticeStations$Standing;"⟩
def RX3 : String := "NoticeStations$Station"
def TX3 : u_T := fun k => match k with
  | 0 => ("NoticeStations$Station", "own", "I", true)
  | 1 => ("NoticeStations$Station", "up", "Z", false)
  | 2 => ("NoticeStations$Station", "stored", "LNoticeStations$Standing;", false)
  | 3 => ("NoticeStations$Station", "began", "I", false)
  | 4 => ("NoticeStations$Station", "preparedNumber", "I", false)
  | 5 => ("NoticeStations$Station", "preparedStanding", "LNoticeStations$Standing;", false)
  | 6 => ("NoticeStations$Station", "lock", "I", false)
  | _ => ("NoticeStations$Station", "open", "LNoticeStations$OpenWrite;", false)
def tyX3 : Nat → FieldType := fun k => match k with
  | 0 => .int
  | 1 => .boolean
  | 2 => .object "NoticeStations$Standing"
  | 3 => .int
  | 4 => .int
  | 5 => .object "NoticeStations$Standing"
  | 6 => .int
  | _ => .object "NoticeStations$OpenWrite"
abbrev wsX30 : List Cond := u_ws RX3 TX3 8
theorem nmX3 : ∀ a, a < 8 → ∀ b, b < 8 → a ≠ b → (TX3 a).2.1 ≠ (TX3 b).2.1 := by decide +kernel
theorem tyX3_ok : ∀ k, k < 8 → parseFieldDescriptor (TX3 k).2.2.1 = some (tyX3 k) := by decide +kernel
abbrev cX3_init : ByteArray := prog_5_method_1_code
def yX3_init : MethodName := ⟨RX3, "<init>", "(ILNoticeStations$Standing;)V"⟩
abbrev cX3_isInDoubt : ByteArray := prog_5_method_2_code
def yX3_isInDoubt : MethodName := ⟨RX3, "isInDoubt", "()Z"⟩
abbrev cX3_isPreparedFor : ByteArray := prog_5_method_3_code
def yX3_isPreparedFor : MethodName := ⟨RX3, "isPreparedFor", "(I)Z"⟩
abbrev cX3_isFree : ByteArray := prog_5_method_4_code
def yX3_isFree : MethodName := ⟨RX3, "isFree", "()Z"⟩
abbrev cX3_forgetWrite : ByteArray := prog_5_method_5_code
def yX3_forgetWrite : MethodName := ⟨RX3, "forgetWrite", "()V"⟩
abbrev cX3_endDoubt : ByteArray := prog_5_method_6_code
def yX3_endDoubt : MethodName := ⟨RX3, "endDoubt", "()V"⟩
abbrev cX3_hasEndedWrite : ByteArray := prog_5_method_7_code
def yX3_hasEndedWrite : MethodName := ⟨RX3, "hasEndedWrite", "(I)Z"⟩
def RX4 : String := "NoticeStations"
def TX4 : u_T := fun k => match k with
  | 0 => ("NoticeStations", "stations", "[LNoticeStations$Station;", true)
  | 1 => ("NoticeStations", "cables", "[I", true)
  | 2 => ("NoticeStations", "row", "Ljava/util/ArrayList;", true)
  | _ => ("NoticeStations", "asIfGranted", "[LNoticeStations$Standing;", true)
def tyX4 : Nat → FieldType := fun k => match k with
  | 0 => .array (.object "NoticeStations$Station")
  | 1 => .array .int
  | 2 => .object "java/util/ArrayList"
  | _ => .array (.object "NoticeStations$Standing")
abbrev wsX40 : List Cond := u_ws RX4 TX4 4
theorem nmX4 : ∀ a, a < 4 → ∀ b, b < 4 → a ≠ b → (TX4 a).2.1 ≠ (TX4 b).2.1 := by decide +kernel
theorem tyX4_ok : ∀ k, k < 4 → parseFieldDescriptor (TX4 k).2.2.1 = some (tyX4 k) := by decide +kernel
abbrev cX4_init : ByteArray := prog_1_method_1_code
def yX4_init : MethodName := ⟨RX4, "<init>", "()V"⟩
abbrev cX4_cable : ByteArray := prog_1_method_2_code
def yX4_cable : MethodName := ⟨RX4, "cable", "(IIZ)Z"⟩
abbrev cX4_write : ByteArray := prog_1_method_3_code
def yX4_write : MethodName := ⟨RX4, "write", "(IIII)I"⟩
abbrev cX4_withdraw : ByteArray := prog_1_method_4_code
def yX4_withdraw : MethodName := ⟨RX4, "withdraw", "(II)I"⟩
abbrev cX4_decide : ByteArray := prog_1_method_5_code
def yX4_decide : MethodName := ⟨RX4, "decide", "(I)Z"⟩
abbrev cX4_giveUp : ByteArray := prog_1_method_6_code
def yX4_giveUp : MethodName := ⟨RX4, "giveUp", "(I)V"⟩
abbrev cX4_resend : ByteArray := prog_1_method_7_code
def yX4_resend : MethodName := ⟨RX4, "resend", "(I)I"⟩
abbrev cX4_unlock : ByteArray := prog_1_method_8_code
def yX4_unlock : MethodName := ⟨RX4, "unlock", "(I)V"⟩
abbrev cX4_ask : ByteArray := prog_1_method_9_code
def yX4_ask : MethodName := ⟨RX4, "ask", "(II)V"⟩
abbrev cX4_stop : ByteArray := prog_1_method_10_code
def yX4_stop : MethodName := ⟨RX4, "stop", "(I)Z"⟩
abbrev cX4_start : ByteArray := prog_1_method_11_code
def yX4_start : MethodName := ⟨RX4, "start", "(I)Z"⟩
abbrev cX4_letters : ByteArray := prog_1_method_12_code
def yX4_letters : MethodName := ⟨RX4, "letters", "()I"⟩
abbrev cX4_deliver : ByteArray := prog_1_method_13_code
def yX4_deliver : MethodName := ⟨RX4, "deliver", "(I)I"⟩
abbrev cX4_lose : ByteArray := prog_1_method_14_code
def yX4_lose : MethodName := ⟨RX4, "lose", "(I)V"⟩
abbrev cX4_twin : ByteArray := prog_1_method_15_code
def yX4_twin : MethodName := ⟨RX4, "twin", "(I)V"⟩
abbrev cX4_letter : ByteArray := prog_1_method_16_code
def yX4_letter : MethodName := ⟨RX4, "letter", "(II)I"⟩
abbrev cX4_count : ByteArray := prog_1_method_17_code
def yX4_count : MethodName := ⟨RX4, "count", "(I)I"⟩
abbrev cX4_entry : ByteArray := prog_1_method_18_code
def yX4_entry : MethodName := ⟨RX4, "entry", "(IIZ)I"⟩
abbrev cX4_about : ByteArray := prog_1_method_19_code
def yX4_about : MethodName := ⟨RX4, "about", "(II)I"⟩
abbrev cX4_allowed : ByteArray := prog_1_method_20_code
def yX4_allowed : MethodName := ⟨RX4, "allowed", "(I)Z"⟩
abbrev cX4_inForce : ByteArray := prog_1_method_21_code
def yX4_inForce : MethodName := ⟨RX4, "inForce", "(III)I"⟩
abbrev cX4_isBelow : ByteArray := prog_1_method_22_code
def yX4_isBelow : MethodName := ⟨RX4, "isBelow", "(II)Z"⟩
abbrev cX4_withdrawalOf : ByteArray := prog_1_method_23_code
def yX4_withdrawalOf : MethodName := ⟨RX4, "withdrawalOf", "(I)I"⟩
abbrev cX4_isOn : ByteArray := prog_1_method_24_code
def yX4_isOn : MethodName := ⟨RX4, "isOn", "(III)Z"⟩
abbrev cX4_stationAt : ByteArray := prog_1_method_25_code
def yX4_stationAt : MethodName := ⟨RX4, "stationAt", "(I)LNoticeStations$Station;"⟩
abbrev cX4_requireTwoStations : ByteArray := prog_1_method_26_code
def yX4_requireTwoStations : MethodName := ⟨RX4, "requireTwoStations", "(II)V"⟩
abbrev cX4_requireLetter : ByteArray := prog_1_method_27_code
def yX4_requireLetter : MethodName := ⟨RX4, "requireLetter", "(I)V"⟩
abbrev cX4_letterAt : ByteArray := prog_1_method_28_code
def yX4_letterAt : MethodName := ⟨RX4, "letterAt", "(I)LNoticeStations$Letter;"⟩
abbrev cX4_openWriteOf : ByteArray := prog_1_method_29_code
def yX4_openWriteOf : MethodName := ⟨RX4, "openWriteOf", "(LNoticeStations$Station;)LNoticeStations$OpenWrite;"⟩
abbrev cX4_requireRoomFor : ByteArray := prog_1_method_30_code
def yX4_requireRoomFor : MethodName := ⟨RX4, "requireRoomFor", "(I)V"⟩
abbrev cX4_send : ByteArray := prog_1_method_31_code
def yX4_send : MethodName := ⟨RX4, "send", "(IIIILNoticeStations$Standing;)V"⟩
abbrev cX4_sendBack : ByteArray := prog_1_method_32_code
def yX4_sendBack : MethodName := ⟨RX4, "sendBack", "(ILNoticeStations$Letter;LNoticeStations$Standing;)V"⟩
abbrev cX4_areInOnePiece : ByteArray := prog_1_method_33_code
def yX4_areInOnePiece : MethodName := ⟨RX4, "areInOnePiece", "(II)Z"⟩
abbrev cX4_beginWrite : ByteArray := prog_1_method_34_code
def yX4_beginWrite : MethodName := ⟨RX4, "beginWrite", "(LNoticeStations$Station;I)I"⟩
abbrev cX4_heldByHolders : ByteArray := prog_1_method_35_code
def yX4_heldByHolders : MethodName := ⟨RX4, "heldByHolders", "([LNoticeStations$Standing;)LNoticeStations$Standing;"⟩
abbrev cX4_mayGoOn : ByteArray := prog_1_method_36_code
def yX4_mayGoOn : MethodName := ⟨RX4, "mayGoOn", "([LNoticeStations$Standing;LNoticeStations$Standing;)Z"⟩
abbrev cX4_sendAwaited : ByteArray := prog_1_method_37_code
def yX4_sendAwaited : MethodName := ⟨RX4, "sendAwaited", "(LNoticeStations$Station;LNoticeStations$OpenWrite;)V"⟩
abbrev cX4_commitIfAllPrepared : ByteArray := prog_1_method_38_code
def yX4_commitIfAllPrepared : MethodName := ⟨RX4, "commitIfAllPrepared", "(LNoticeStations$Station;LNoticeStations$OpenWrite;)V"⟩
abbrev cX4_answersTo : ByteArray := prog_1_method_39_code
def yX4_answersTo : MethodName := ⟨RX4, "answersTo", "(LNoticeStations$Letter;LNoticeStations$Station;)I"⟩
abbrev cX4_openWriteFor : ByteArray := prog_1_method_40_code
def yX4_openWriteFor : MethodName := ⟨RX4, "openWriteFor", "(LNoticeStations$Letter;LNoticeStations$Station;)LNoticeStations$OpenWrite;"⟩
abbrev cX4_take : ByteArray := prog_1_method_41_code
def yX4_take : MethodName := ⟨RX4, "take", "(LNoticeStations$Letter;LNoticeStations$Station;)V"⟩
abbrev cX4_takeLock : ByteArray := prog_1_method_42_code
def yX4_takeLock : MethodName := ⟨RX4, "takeLock", "(LNoticeStations$Letter;LNoticeStations$Station;)V"⟩
abbrev cX4_takeGrant : ByteArray := prog_1_method_43_code
def yX4_takeGrant : MethodName := ⟨RX4, "takeGrant", "(LNoticeStations$Letter;LNoticeStations$Station;)V"⟩
abbrev cX4_takePrepare : ByteArray := prog_1_method_44_code
def yX4_takePrepare : MethodName := ⟨RX4, "takePrepare", "(LNoticeStations$Letter;LNoticeStations$Station;)V"⟩
abbrev cX4_takePrepared : ByteArray := prog_1_method_45_code
def yX4_takePrepared : MethodName := ⟨RX4, "takePrepared", "(LNoticeStations$Letter;LNoticeStations$Station;)V"⟩
abbrev cX4_takeCommit : ByteArray := prog_1_method_46_code
def yX4_takeCommit : MethodName := ⟨RX4, "takeCommit", "(LNoticeStations$Letter;LNoticeStations$Station;)V"⟩
abbrev cX4_takeAbort : ByteArray := prog_1_method_47_code
def yX4_takeAbort : MethodName := ⟨RX4, "takeAbort", "(LNoticeStations$Letter;LNoticeStations$Station;)V"⟩
abbrev cX4_takeAsk : ByteArray := prog_1_method_48_code
def yX4_takeAsk : MethodName := ⟨RX4, "takeAsk", "(LNoticeStations$Letter;LNoticeStations$Station;)V"⟩
def RX5 : String := "NoticeStationsModel"
def TX5 : u_T := fun k => match k with
  | 0 => ("NoticeStationsModel", "thrown", "I", false)
  | 1 => ("NoticeStationsModel", "states", "I", false)
  | 2 => ("NoticeStationsModel", "length", "[I", false)
  | 3 => ("NoticeStationsModel", "earlier", "[I", false)
  | 4 => ("NoticeStationsModel", "entryOf", "[I", false)
  | 5 => ("NoticeStationsModel", "writeOf", "[I", false)
  | 6 => ("NoticeStationsModel", "sizeOf", "[I", false)
  | 7 => ("NoticeStationsModel", "namedOf", "[I", false)
  | 8 => ("NoticeStationsModel", "state", "[I", true)
  | 9 => ("NoticeStationsModel", "began", "[I", true)
  | 10 => ("NoticeStationsModel", "preparedFor", "[I", true)
  | 11 => ("NoticeStationsModel", "preparedState", "[I", true)
  | 12 => ("NoticeStationsModel", "stopped", "[Z", true)
  | 13 => ("NoticeStationsModel", "lock", "[I", true)
  | 14 => ("NoticeStationsModel", "open", "[I", true)
  | 15 => ("NoticeStationsModel", "openEntry", "[I", true)
  | 16 => ("NoticeStationsModel", "made", "[I", true)
  | 17 => ("NoticeStationsModel", "group", "[I", true)
  | 18 => ("NoticeStationsModel", "done", "[I", true)
  | 19 => ("NoticeStationsModel", "granted", "[I", true)
  | 20 => ("NoticeStationsModel", "torn", "[Z", true)
  | 21 => ("NoticeStationsModel", "mark", "[I", true)
  | 22 => ("NoticeStationsModel", "letters", "I", false)
  | 23 => ("NoticeStationsModel", "kind", "[I", true)
  | 24 => ("NoticeStationsModel", "from", "[I", true)
  | 25 => ("NoticeStationsModel", "to", "[I", true)
  | 26 => ("NoticeStationsModel", "write", "[I", true)
  | 27 => ("NoticeStationsModel", "with", "[I", true)
  | _ => ("NoticeStationsModel", "asked", "[I", true)
def tyX5 : Nat → FieldType := fun k => match k with
  | 0 => .int
  | 1 => .int
  | 2 => .array .int
  | 3 => .array .int
  | 4 => .array .int
  | 5 => .array .int
  | 6 => .array .int
  | 7 => .array .int
  | 8 => .array .int
  | 9 => .array .int
  | 10 => .array .int
  | 11 => .array .int
  | 12 => .array .boolean
  | 13 => .array .int
  | 14 => .array .int
  | 15 => .array .int
  | 16 => .array .int
  | 17 => .array .int
  | 18 => .array .int
  | 19 => .array .int
  | 20 => .array .boolean
  | 21 => .array .int
  | 22 => .int
  | 23 => .array .int
  | 24 => .array .int
  | 25 => .array .int
  | 26 => .array .int
  | 27 => .array .int
  | _ => .array .int
abbrev wsX50 : List Cond := u_ws RX5 TX5 29
theorem nmX5 : ∀ a, a < 29 → ∀ b, b < 29 → a ≠ b → (TX5 a).2.1 ≠ (TX5 b).2.1 := by decide +kernel
theorem tyX5_ok : ∀ k, k < 29 → parseFieldDescriptor (TX5 k).2.2.1 = some (tyX5 k) := by decide +kernel
abbrev cX5_init : ByteArray := prog_7_method_1_code
def yX5_init : MethodName := ⟨RX5, "<init>", "()V"⟩
abbrev cX5_thrown : ByteArray := prog_7_method_2_code
def yX5_thrown : MethodName := ⟨RX5, "thrown", "()I"⟩
abbrev cX5_isOne : ByteArray := prog_7_method_3_code
def yX5_isOne : MethodName := ⟨RX5, "isOne", "(I)Z"⟩
abbrev cX5_has : ByteArray := prog_7_method_4_code
def yX5_has : MethodName := ⟨RX5, "has", "(II)Z"⟩
abbrev cX5_many : ByteArray := prog_7_method_5_code
def yX5_many : MethodName := ⟨RX5, "many", "(I)I"⟩
abbrev cX5_isFree : ByteArray := prog_7_method_6_code
def yX5_isFree : MethodName := ⟨RX5, "isFree", "(I)Z"⟩
abbrev cX5_back : ByteArray := prog_7_method_7_code
def yX5_back : MethodName := ⟨RX5, "back", "(II)I"⟩
abbrev cX5_contains : ByteArray := prog_7_method_8_code
def yX5_contains : MethodName := ⟨RX5, "contains", "(II)Z"⟩
abbrev cX5_isNotice : ByteArray := prog_7_method_9_code
def yX5_isNotice : MethodName := ⟨RX5, "isNotice", "(II)Z"⟩
abbrev cX5_isFull : ByteArray := prog_7_method_10_code
def yX5_isFull : MethodName := ⟨RX5, "isFull", "(I)Z"⟩
abbrev cX5_send : ByteArray := prog_7_method_11_code
def yX5_send : MethodName := ⟨RX5, "send", "(IIIII)V"⟩
abbrev cX5_remove : ByteArray := prog_7_method_12_code
def yX5_remove : MethodName := ⟨RX5, "remove", "(I)V"⟩
abbrev cX5_sendAll : ByteArray := prog_7_method_13_code
def yX5_sendAll : MethodName := ⟨RX5, "sendAll", "(IIIII)V"⟩
abbrev cX5_cable : ByteArray := prog_7_method_14_code
def yX5_cable : MethodName := ⟨RX5, "cable", "(IIZ)Z"⟩
abbrev cX5_isJoined : ByteArray := prog_7_method_15_code
def yX5_isJoined : MethodName := ⟨RX5, "isJoined", "(II)Z"⟩
abbrev cX5_begin : ByteArray := prog_7_method_16_code
def yX5_begin : MethodName := ⟨RX5, "begin", "(II)I"⟩
abbrev cX5_write : ByteArray := prog_7_method_17_code
def yX5_write : MethodName := ⟨RX5, "write", "(IIII)I"⟩
abbrev cX5_withdraw : ByteArray := prog_7_method_18_code
def yX5_withdraw : MethodName := ⟨RX5, "withdraw", "(II)I"⟩
abbrev cX5_greatest : ByteArray := prog_7_method_19_code
def yX5_greatest : MethodName := ⟨RX5, "greatest", "()I"⟩
abbrev cX5_mayGoOn : ByteArray := prog_7_method_20_code
def yX5_mayGoOn : MethodName := ⟨RX5, "mayGoOn", "()Z"⟩
abbrev cX5_askGranted : ByteArray := prog_7_method_21_code
def yX5_askGranted : MethodName := ⟨RX5, "askGranted", "(I)V"⟩
abbrev cX5_longer : ByteArray := prog_7_method_22_code
def yX5_longer : MethodName := ⟨RX5, "longer", "([I)[I"⟩
abbrev cX5_decide : ByteArray := prog_7_method_23_code
def yX5_decide : MethodName := ⟨RX5, "decide", "(I)Z"⟩
abbrev cX5_finish : ByteArray := prog_7_method_24_code
def yX5_finish : MethodName := ⟨RX5, "finish", "(I)V"⟩
abbrev cX5_giveUp : ByteArray := prog_7_method_25_code
def yX5_giveUp : MethodName := ⟨RX5, "giveUp", "(I)V"⟩
abbrev cX5_resend : ByteArray := prog_7_method_26_code
def yX5_resend : MethodName := ⟨RX5, "resend", "(I)I"⟩
abbrev cX5_unlock : ByteArray := prog_7_method_27_code
def yX5_unlock : MethodName := ⟨RX5, "unlock", "(I)V"⟩
abbrev cX5_ask : ByteArray := prog_7_method_28_code
def yX5_ask : MethodName := ⟨RX5, "ask", "(II)V"⟩
abbrev cX5_stop : ByteArray := prog_7_method_29_code
def yX5_stop : MethodName := ⟨RX5, "stop", "(I)Z"⟩
abbrev cX5_start : ByteArray := prog_7_method_30_code
def yX5_start : MethodName := ⟨RX5, "start", "(I)Z"⟩
abbrev cX5_letters : ByteArray := prog_7_method_31_code
def yX5_letters : MethodName := ⟨RX5, "letters", "()I"⟩
abbrev cX5_isLetter : ByteArray := prog_7_method_32_code
def yX5_isLetter : MethodName := ⟨RX5, "isLetter", "(I)Z"⟩
abbrev cX5_counts : ByteArray := prog_7_method_33_code
def yX5_counts : MethodName := ⟨RX5, "counts", "(I)Z"⟩
abbrev cX5_work : ByteArray := prog_7_method_34_code
def yX5_work : MethodName := ⟨RX5, "work", "(IIIII)V"⟩
abbrev cX5_end : ByteArray := prog_7_method_35_code
def yX5_end : MethodName := ⟨RX5, "end", "(IIZ)V"⟩
abbrev cX5_answer : ByteArray := prog_7_method_36_code
def yX5_answer : MethodName := ⟨RX5, "answer", "(IIII)V"⟩
abbrev cX5_deliver : ByteArray := prog_7_method_37_code
def yX5_deliver : MethodName := ⟨RX5, "deliver", "(I)I"⟩
abbrev cX5_lose : ByteArray := prog_7_method_38_code
def yX5_lose : MethodName := ⟨RX5, "lose", "(I)V"⟩
abbrev cX5_twin : ByteArray := prog_7_method_39_code
def yX5_twin : MethodName := ⟨RX5, "twin", "(I)V"⟩
abbrev cX5_letter : ByteArray := prog_7_method_40_code
def yX5_letter : MethodName := ⟨RX5, "letter", "(II)I"⟩
abbrev cX5_count : ByteArray := prog_7_method_41_code
def yX5_count : MethodName := ⟨RX5, "count", "(I)I"⟩
abbrev cX5_entry : ByteArray := prog_7_method_42_code
def yX5_entry : MethodName := ⟨RX5, "entry", "(IIZ)I"⟩
abbrev cX5_about : ByteArray := prog_7_method_43_code
def yX5_about : MethodName := ⟨RX5, "about", "(II)I"⟩
abbrev cX5_allowed : ByteArray := prog_7_method_44_code
def yX5_allowed : MethodName := ⟨RX5, "allowed", "(I)Z"⟩
abbrev cX5_inForce : ByteArray := prog_7_method_45_code
def yX5_inForce : MethodName := ⟨RX5, "inForce", "(III)I"⟩
def RJx145de : String := "java/io/Serializable"
def TJx145de : u_T := fun k => match k with
  | _ => ("", "", "", false)
def tyJx145de : Nat → FieldType := fun k => match k with
  | _ => .int
abbrev wsJx145de0 : List Cond := u_ws RJx145de TJx145de 0
theorem nmJx145de : ∀ a, a < 0 → ∀ b, b < 0 → a ≠ b → (TJx145de a).2.1 ≠ (TJx145de b).2.1 := by decide +kernel
theorem tyJx145de_ok : ∀ k, k < 0 → parseFieldDescriptor (TJx145de k).2.2.1 = some (tyJx145de k) := by decide +kernel
def RJx8e188 : String := "java/lang/Cloneable"
def TJx8e188 : u_T := fun k => match k with
  | _ => ("", "", "", false)
def tyJx8e188 : Nat → FieldType := fun k => match k with
  | _ => .int
abbrev wsJx8e1880 : List Cond := u_ws RJx8e188 TJx8e188 0
theorem nmJx8e188 : ∀ a, a < 0 → ∀ b, b < 0 → a ≠ b → (TJx8e188 a).2.1 ≠ (TJx8e188 b).2.1 := by decide +kernel
theorem tyJx8e188_ok : ∀ k, k < 0 → parseFieldDescriptor (TJx8e188 k).2.2.1 = some (tyJx8e188 k) := by decide +kernel
def RJxab1ab : String := "java/lang/Iterable"
def TJxab1ab : u_T := fun k => match k with
  | _ => ("", "", "", false)
def tyJxab1ab : Nat → FieldType := fun k => match k with
  | _ => .int
abbrev wsJxab1ab0 : List Cond := u_ws RJxab1ab TJxab1ab 0
theorem nmJxab1ab : ∀ a, a < 0 → ∀ b, b < 0 → a ≠ b → (TJxab1ab a).2.1 ≠ (TJxab1ab b).2.1 := by decide +kernel
theorem tyJxab1ab_ok : ∀ k, k < 0 → parseFieldDescriptor (TJxab1ab k).2.2.1 = some (tyJxab1ab k) := by decide +kernel
def RJ9 : String := "java/lang/Math"
def TJ9 : u_T := fun k => match k with
  | _ => ("", "", "", false)
def tyJ9 : Nat → FieldType := fun k => match k with
  | _ => .int
abbrev wsJ90 : List Cond := u_ws RJ9 TJ9 0
theorem nmJ9 : ∀ a, a < 0 → ∀ b, b < 0 → a ≠ b → (TJ9 a).2.1 ≠ (TJ9 b).2.1 := by decide +kernel
theorem tyJ9_ok : ∀ k, k < 0 → parseFieldDescriptor (TJ9 k).2.2.1 = some (tyJ9 k) := by decide +kernel
abbrev cJ9_max_7cf53 : ByteArray := prog_15_method_65_code
def yJ9_max_7cf53 : MethodName := ⟨RJ9, "max", "(II)I"⟩
abbrev cJ9_min_7cf53 : ByteArray := prog_15_method_69_code
def yJ9_min_7cf53 : MethodName := ⟨RJ9, "min", "(II)I"⟩
def RJ0 : String := "java/lang/String"
def TJ0 : u_T := fun k => match k with
  | _ => ("", "", "", false)
def tyJ0 : Nat → FieldType := fun k => match k with
  | _ => .int
abbrev wsJ00 : List Cond := u_ws RJ0 TJ0 0
theorem nmJ0 : ∀ a, a < 0 → ∀ b, b < 0 → a ≠ b → (TJ0 a).2.1 ≠ (TJ0 b).2.1 := by decide +kernel
theorem tyJ0_ok : ∀ k, k < 0 → parseFieldDescriptor (TJ0 k).2.2.1 = some (tyJ0 k) := by decide +kernel
def RJ10 : String := "java/lang/System"
def TJ10 : u_T := fun k => match k with
  | _ => ("", "", "", false)
def tyJ10 : Nat → FieldType := fun k => match k with
  | _ => .int
abbrev wsJ100 : List Cond := u_ws RJ10 TJ10 0
theorem nmJ10 : ∀ a, a < 0 → ∀ b, b < 0 → a ≠ b → (TJ10 a).2.1 ≠ (TJ10 b).2.1 := by decide +kernel
theorem tyJ10_ok : ∀ k, k < 0 → parseFieldDescriptor (TJ10 k).2.2.1 = some (tyJ10 k) := by decide +kernel
def RJxa1e45 : String := "java/util/AbstractCollection"
def TJxa1e45 : u_T := fun k => match k with
  | _ => ("", "", "", false)
def tyJxa1e45 : Nat → FieldType := fun k => match k with
  | _ => .int
abbrev wsJxa1e450 : List Cond := u_ws RJxa1e45 TJxa1e45 0
theorem nmJxa1e45 : ∀ a, a < 0 → ∀ b, b < 0 → a ≠ b → (TJxa1e45 a).2.1 ≠ (TJxa1e45 b).2.1 := by decide +kernel
theorem tyJxa1e45_ok : ∀ k, k < 0 → parseFieldDescriptor (TJxa1e45 k).2.2.1 = some (tyJxa1e45 k) := by decide +kernel
abbrev cJxa1e45_init_da8c8 : ByteArray := prog_21_method_1_code
def yJxa1e45_init_da8c8 : MethodName := ⟨RJxa1e45, "<init>", "()V"⟩
def RJxc12de : String := "java/util/AbstractList"
def TJxc12de : u_T := fun k => match k with
  | _ => ("", "", "", false)
def tyJxc12de : Nat → FieldType := fun k => match k with
  | _ => .int
abbrev wsJxc12de0 : List Cond := u_ws RJxc12de TJxc12de 0
theorem nmJxc12de : ∀ a, a < 0 → ∀ b, b < 0 → a ≠ b → (TJxc12de a).2.1 ≠ (TJxc12de b).2.1 := by decide +kernel
theorem tyJxc12de_ok : ∀ k, k < 0 → parseFieldDescriptor (TJxc12de k).2.2.1 = some (tyJxc12de k) := by decide +kernel
abbrev cJxc12de_init_da8c8 : ByteArray := prog_22_method_1_code
def yJxc12de_init_da8c8 : MethodName := ⟨RJxc12de, "<init>", "()V"⟩
def RJx4a65c : String := "java/util/ArrayList"
def TJx4a65c : u_T := fun k => match k with
  | 0 => ("java/util/AbstractList", "modCount", "I", false)
  | 1 => ("java/util/ArrayList", "elementData", "[Ljava/lang/Object;", false)
  | _ => ("java/util/ArrayList", "size", "I", false)
def tyJx4a65c : Nat → FieldType := fun k => match k with
  | 0 => .int
  | 1 => .array (.object "java/lang/Object")
  | _ => .int
abbrev wsJx4a65c0 : List Cond := u_ws RJx4a65c TJx4a65c 3
theorem nmJx4a65c : ∀ a, a < 3 → ∀ b, b < 3 → a ≠ b → (TJx4a65c a).2.1 ≠ (TJx4a65c b).2.1 := by decide +kernel
theorem tyJx4a65c_ok : ∀ k, k < 3 → parseFieldDescriptor (TJx4a65c k).2.2.1 = some (tyJx4a65c k) := by decide +kernel
abbrev cJx4a65c_init_da8c8 : ByteArray := prog_23_method_2_code
def yJx4a65c_init_da8c8 : MethodName := ⟨RJx4a65c, "<init>", "()V"⟩
abbrev cJx4a65c_grow_92f84 : ByteArray := prog_23_method_6_code
def yJx4a65c_grow_92f84 : MethodName := ⟨RJx4a65c, "grow", "(I)[Ljava/lang/Object;"⟩
abbrev cJx4a65c_grow_d5877 : ByteArray := prog_23_method_7_code
def yJx4a65c_grow_d5877 : MethodName := ⟨RJx4a65c, "grow", "()[Ljava/lang/Object;"⟩
abbrev cJx4a65c_size_8abf5 : ByteArray := prog_23_method_8_code
def yJx4a65c_size_8abf5 : MethodName := ⟨RJx4a65c, "size", "()I"⟩
abbrev cJx4a65c_elementData_915e3 : ByteArray := prog_23_method_18_code
def yJx4a65c_elementData_915e3 : MethodName := ⟨RJx4a65c, "elementData", "(I)Ljava/lang/Object;"⟩
abbrev cJx4a65c_get_915e3 : ByteArray := prog_23_method_20_code
def yJx4a65c_get_915e3 : MethodName := ⟨RJx4a65c, "get", "(I)Ljava/lang/Object;"⟩
abbrev cJx4a65c_add_72be8 : ByteArray := prog_23_method_24_code
def yJx4a65c_add_72be8 : MethodName := ⟨RJx4a65c, "add", "(Ljava/lang/Object;[Ljava/lang/Object;I)V"⟩
abbrev cJx4a65c_add_9ea2d : ByteArray := prog_23_method_25_code
def yJx4a65c_add_9ea2d : MethodName := ⟨RJx4a65c, "add", "(Ljava/lang/Object;)Z"⟩
abbrev cJx4a65c_remove_915e3 : ByteArray := prog_23_method_29_code
def yJx4a65c_remove_915e3 : MethodName := ⟨RJx4a65c, "remove", "(I)Ljava/lang/Object;"⟩
abbrev cJx4a65c_fastRemove_b59b0 : ByteArray := prog_23_method_39_code
def yJx4a65c_fastRemove_b59b0 : MethodName := ⟨RJx4a65c, "fastRemove", "([Ljava/lang/Object;I)V"⟩
def RJ7 : String := "java/util/Arrays"
def TJ7 : u_T := fun k => match k with
  | _ => ("", "", "", false)
def tyJ7 : Nat → FieldType := fun k => match k with
  | _ => .int
abbrev wsJ70 : List Cond := u_ws RJ7 TJ7 0
theorem nmJ7 : ∀ a, a < 0 → ∀ b, b < 0 → a ≠ b → (TJ7 a).2.1 ≠ (TJ7 b).2.1 := by decide +kernel
theorem tyJ7_ok : ∀ k, k < 0 → parseFieldDescriptor (TJ7 k).2.2.1 = some (tyJ7 k) := by decide +kernel
abbrev cJ7_copyOf_1904c : ByteArray := prog_24_method_119_code
def yJ7_copyOf_1904c : MethodName := ⟨RJ7, "copyOf", "([Ljava/lang/Object;I)[Ljava/lang/Object;"⟩
abbrev cJ7_copyOf_6403c : ByteArray := prog_24_method_120_code
def yJ7_copyOf_6403c : MethodName := ⟨RJ7, "copyOf", "([Ljava/lang/Object;ILjava/lang/Class;)[Ljava/lang/Object;"⟩
abbrev cJ7_copyOf_59c91 : ByteArray := prog_24_method_123_code
def yJ7_copyOf_59c91 : MethodName := ⟨RJ7, "copyOf", "([II)[I"⟩
def RJx5ef63 : String := "java/util/Collection"
def TJx5ef63 : u_T := fun k => match k with
  | _ => ("", "", "", false)
def tyJx5ef63 : Nat → FieldType := fun k => match k with
  | _ => .int
abbrev wsJx5ef630 : List Cond := u_ws RJx5ef63 TJx5ef63 0
theorem nmJx5ef63 : ∀ a, a < 0 → ∀ b, b < 0 → a ≠ b → (TJx5ef63 a).2.1 ≠ (TJx5ef63 b).2.1 := by decide +kernel
theorem tyJx5ef63_ok : ∀ k, k < 0 → parseFieldDescriptor (TJx5ef63 k).2.2.1 = some (tyJx5ef63 k) := by decide +kernel
def RJxbd725 : String := "java/util/List"
def TJxbd725 : u_T := fun k => match k with
  | _ => ("", "", "", false)
def tyJxbd725 : Nat → FieldType := fun k => match k with
  | _ => .int
abbrev wsJxbd7250 : List Cond := u_ws RJxbd725 TJxbd725 0
theorem nmJxbd725 : ∀ a, a < 0 → ∀ b, b < 0 → a ≠ b → (TJxbd725 a).2.1 ≠ (TJxbd725 b).2.1 := by decide +kernel
theorem tyJxbd725_ok : ∀ k, k < 0 → parseFieldDescriptor (TJxbd725 k).2.2.1 = some (tyJxbd725 k) := by decide +kernel
def RJ15 : String := "java/util/Objects"
def TJ15 : u_T := fun k => match k with
  | _ => ("", "", "", false)
def tyJ15 : Nat → FieldType := fun k => match k with
  | _ => .int
abbrev wsJ150 : List Cond := u_ws RJ15 TJ15 0
theorem nmJ15 : ∀ a, a < 0 → ∀ b, b < 0 → a ≠ b → (TJ15 a).2.1 ≠ (TJ15 b).2.1 := by decide +kernel
theorem tyJ15_ok : ∀ k, k < 0 → parseFieldDescriptor (TJ15 k).2.2.1 = some (tyJ15 k) := by decide +kernel
abbrev cJ15_checkIndex_7cf53 : ByteArray := prog_28_method_17_code
def yJ15_checkIndex_7cf53 : MethodName := ⟨RJ15, "checkIndex", "(II)I"⟩
def RJxf0a74 : String := "java/util/RandomAccess"
def TJxf0a74 : u_T := fun k => match k with
  | _ => ("", "", "", false)
def tyJxf0a74 : Nat → FieldType := fun k => match k with
  | _ => .int
abbrev wsJxf0a740 : List Cond := u_ws RJxf0a74 TJxf0a74 0
theorem nmJxf0a74 : ∀ a, a < 0 → ∀ b, b < 0 → a ≠ b → (TJxf0a74 a).2.1 ≠ (TJxf0a74 b).2.1 := by decide +kernel
theorem tyJxf0a74_ok : ∀ k, k < 0 → parseFieldDescriptor (TJxf0a74 k).2.2.1 = some (tyJxf0a74 k) := by decide +kernel
def RJxa66e6 : String := "java/util/SequencedCollection"
def TJxa66e6 : u_T := fun k => match k with
  | _ => ("", "", "", false)
def tyJxa66e6 : Nat → FieldType := fun k => match k with
  | _ => .int
abbrev wsJxa66e60 : List Cond := u_ws RJxa66e6 TJxa66e6 0
theorem nmJxa66e6 : ∀ a, a < 0 → ∀ b, b < 0 → a ≠ b → (TJxa66e6 a).2.1 ≠ (TJxa66e6 b).2.1 := by decide +kernel
theorem tyJxa66e6_ok : ∀ k, k < 0 → parseFieldDescriptor (TJxa66e6 k).2.2.1 = some (tyJxa66e6 k) := by decide +kernel
def RJ8 : String := "jdk/internal/util/ArraysSupport"
def TJ8 : u_T := fun k => match k with
  | _ => ("", "", "", false)
def tyJ8 : Nat → FieldType := fun k => match k with
  | _ => .int
abbrev wsJ80 : List Cond := u_ws RJ8 TJ8 0
theorem nmJ8 : ∀ a, a < 0 → ∀ b, b < 0 → a ≠ b → (TJ8 a).2.1 ≠ (TJ8 b).2.1 := by decide +kernel
theorem tyJ8_ok : ∀ k, k < 0 → parseFieldDescriptor (TJ8 k).2.2.1 = some (tyJ8 k) := by decide +kernel
abbrev cJ8_newLength_cabcc : ByteArray := prog_31_method_27_code
def yJ8_newLength_cabcc : MethodName := ⟨RJ8, "newLength", "(III)I"⟩
abbrev cJ8_hugeLength_7cf53 : ByteArray := prog_31_method_28_code
def yJ8_hugeLength_7cf53 : MethodName := ⟨RJ8, "hugeLength", "(II)I"⟩
def RJ3 : String := "jdk/internal/util/Preconditions"
def TJ3 : u_T := fun k => match k with
  | _ => ("", "", "", false)
def tyJ3 : Nat → FieldType := fun k => match k with
  | _ => .int
abbrev wsJ30 : List Cond := u_ws RJ3 TJ3 0
theorem nmJ3 : ∀ a, a < 0 → ∀ b, b < 0 → a ≠ b → (TJ3 a).2.1 ≠ (TJ3 b).2.1 := by decide +kernel
theorem tyJ3_ok : ∀ k, k < 0 → parseFieldDescriptor (TJ3 k).2.2.1 = some (tyJ3 k) := by decide +kernel
abbrev cJ3_checkIndex_8e157 : ByteArray := prog_32_method_11_code
def yJ3_checkIndex_8e157 : MethodName := ⟨RJ3, "checkIndex", "(IILjava/util/function/BiFunction;)I"⟩
def RL : String := "NoticeStationsLaw"
abbrev cL_cable : ByteArray := method_3_code
def yL_cable : MethodName := ⟨RL, "cable", "(LNoticeStations;IIZ[J)I"⟩
abbrev cL_write : ByteArray := method_4_code
def yL_write : MethodName := ⟨RL, "write", "(LNoticeStations;IIII[J)I"⟩
abbrev cL_withdraw : ByteArray := method_5_code
def yL_withdraw : MethodName := ⟨RL, "withdraw", "(LNoticeStations;II[J)I"⟩
abbrev cL_decide : ByteArray := method_6_code
def yL_decide : MethodName := ⟨RL, "decide", "(LNoticeStations;I[J)I"⟩
abbrev cL_giveUp : ByteArray := method_7_code
def yL_giveUp : MethodName := ⟨RL, "giveUp", "(LNoticeStations;I)I"⟩
abbrev cL_resend : ByteArray := method_8_code
def yL_resend : MethodName := ⟨RL, "resend", "(LNoticeStations;I[J)I"⟩
abbrev cL_unlock : ByteArray := method_9_code
def yL_unlock : MethodName := ⟨RL, "unlock", "(LNoticeStations;I)I"⟩
abbrev cL_ask : ByteArray := method_10_code
def yL_ask : MethodName := ⟨RL, "ask", "(LNoticeStations;II)I"⟩
abbrev cL_stop : ByteArray := method_11_code
def yL_stop : MethodName := ⟨RL, "stop", "(LNoticeStations;I[J)I"⟩
abbrev cL_start : ByteArray := method_12_code
def yL_start : MethodName := ⟨RL, "start", "(LNoticeStations;I[J)I"⟩
abbrev cL_deliver : ByteArray := method_13_code
def yL_deliver : MethodName := ⟨RL, "deliver", "(LNoticeStations;I[J)I"⟩
abbrev cL_lose : ByteArray := method_14_code
def yL_lose : MethodName := ⟨RL, "lose", "(LNoticeStations;I)I"⟩
abbrev cL_twin : ByteArray := method_15_code
def yL_twin : MethodName := ⟨RL, "twin", "(LNoticeStations;I)I"⟩
abbrev cL_letter : ByteArray := method_16_code
def yL_letter : MethodName := ⟨RL, "letter", "(LNoticeStations;II[J)I"⟩
abbrev cL_count : ByteArray := method_17_code
def yL_count : MethodName := ⟨RL, "count", "(LNoticeStations;I[J)I"⟩
abbrev cL_entry : ByteArray := method_18_code
def yL_entry : MethodName := ⟨RL, "entry", "(LNoticeStations;IIZ[J)I"⟩
abbrev cL_about : ByteArray := method_19_code
def yL_about : MethodName := ⟨RL, "about", "(LNoticeStations;II[J)I"⟩
abbrev cL_allowed : ByteArray := method_20_code
def yL_allowed : MethodName := ⟨RL, "allowed", "(LNoticeStations;I[J)I"⟩
abbrev cL_inForce : ByteArray := method_21_code
def yL_inForce : MethodName := ⟨RL, "inForce", "(LNoticeStations;III[J)I"⟩
abbrev cL_law : ByteArray := code
def yL_law : MethodName := ⟨RL, "law", "([I)Z"⟩
end
section
def wsX0_init : List Cond := .code yX0_init cX0_init 6 none :: ([.methodLink RX0 1 objectInit, .instanceMethod objectInit, .code objectInit ⟨#[0xb1]⟩ 1 none, .fieldLink RX0 7 "NoticeStations$Letter" "kind" "I", .fieldLink RX0 13 "NoticeStations$Letter" "from" "I", .fieldLink RX0 16 "NoticeStations$Letter" "to" "I", .fieldLink RX0 19 "NoticeStations$Letter" "number" "I", .fieldLink RX0 22 "NoticeStations$Letter" "standing" "LNoticeStations$Standing;"] ++ wsX00)
def wsX2_length : List Cond := .code yX2_length cX2_length 1 (some .int) :: ([.fieldLink RX2 7 "NoticeStations$Standing" "entries" "[I"] ++ wsX20)
def wsX2_goesOnFrom : List Cond := .code yX2_goesOnFrom cX2_goesOnFrom 3 (some .boolean) :: ([.fieldLink RX2 7 "NoticeStations$Standing" "entries" "[I", .fieldLink RX2 13 "NoticeStations$Standing" "numbers" "[I", .methodLink RX2 33 yX2_length, .instanceMethod yX2_length, .selects RX2 yX2_length yX2_length, .initialized RX2, .code yX2_length cX2_length 1 (some .int)] ++ wsX20)
def wsX0_goesOnFrom : List Cond := .code yX0_goesOnFrom cX0_goesOnFrom 2 (some .boolean) :: ([.fieldLink RX0 22 "NoticeStations$Letter" "standing" "LNoticeStations$Standing;", .instanceMethod yX2_goesOnFrom, .initialized RX2, .selects RX2 yX2_goesOnFrom yX2_goesOnFrom, .code yX2_goesOnFrom cX2_goesOnFrom 3 (some .boolean), .fieldLink RX2 7 "NoticeStations$Standing" "entries" "[I", .fieldLink RX2 13 "NoticeStations$Standing" "numbers" "[I", .methodLink RX2 33 yX2_length, .instanceMethod yX2_length, .selects RX2 yX2_length yX2_length, .code yX2_length cX2_length 1 (some .int)] ++ wsX00 ++ wsX20)
def wsX0_bookLength : List Cond := .code yX0_bookLength cX0_bookLength 1 (some .int) :: ([.fieldLink RX0 22 "NoticeStations$Letter" "standing" "LNoticeStations$Standing;", .instanceMethod yX2_length, .initialized RX2, .selects RX2 yX2_length yX2_length, .code yX2_length cX2_length 1 (some .int), .fieldLink RX2 7 "NoticeStations$Standing" "entries" "[I"] ++ wsX00 ++ wsX20)
def wsX1_init : List Cond := .code yX1_init cX1_init 3 none :: ([.methodLink RX1 3 objectInit, .instanceMethod objectInit, .code objectInit ⟨#[0xb1]⟩ 1 none, .classLink RX1 9 RX2, .fieldLink RX1 11 "NoticeStations$OpenWrite" "granted" "[LNoticeStations$Standing;", .arrayClass .boolean, .fieldLink RX1 17 "NoticeStations$OpenWrite" "prepared" "[Z", .fieldLink RX1 21 "NoticeStations$OpenWrite" "next" "LNoticeStations$Standing;", .fieldLink RX1 25 "NoticeStations$OpenWrite" "number" "I", .fieldLink RX1 29 "NoticeStations$OpenWrite" "entry" "I"] ++ wsX10)
def wsX1_isCollecting : List Cond := .code yX1_isCollecting cX1_isCollecting 1 (some .boolean) :: ([.fieldLink RX1 21 "NoticeStations$OpenWrite" "next" "LNoticeStations$Standing;"] ++ wsX10)
def wsX1_isOfGroup : List Cond := .code yX1_isOfGroup cX1_isOfGroup 2 (some .boolean) :: ([.fieldLink RX1 11 "NoticeStations$OpenWrite" "granted" "[LNoticeStations$Standing;"] ++ wsX10)
def wsX1_awaits : List Cond := .code yX1_awaits cX1_awaits 2 (some .boolean) :: ([.fieldLink RX1 11 "NoticeStations$OpenWrite" "granted" "[LNoticeStations$Standing;", .fieldLink RX1 17 "NoticeStations$OpenWrite" "prepared" "[Z", .methodLink RX1 32 yX1_isCollecting, .instanceMethod yX1_isCollecting, .selects RX1 yX1_isCollecting yX1_isCollecting, .initialized RX1, .code yX1_isCollecting cX1_isCollecting 1 (some .boolean), .fieldLink RX1 21 "NoticeStations$OpenWrite" "next" "LNoticeStations$Standing;", .methodLink RX1 36 yX1_isOfGroup, .instanceMethod yX1_isOfGroup, .selects RX1 yX1_isOfGroup yX1_isOfGroup, .code yX1_isOfGroup cX1_isOfGroup 2 (some .boolean)] ++ wsX10)
def wsX1_awaited : List Cond := .code yX1_awaited cX1_awaited 3 (some .int) :: ([.methodLink RX1 40 yX1_awaits, .instanceMethod yX1_awaits, .selects RX1 yX1_awaits yX1_awaits, .initialized RX1, .code yX1_awaits cX1_awaits 2 (some .boolean), .fieldLink RX1 11 "NoticeStations$OpenWrite" "granted" "[LNoticeStations$Standing;", .fieldLink RX1 17 "NoticeStations$OpenWrite" "prepared" "[Z", .methodLink RX1 32 yX1_isCollecting, .instanceMethod yX1_isCollecting, .selects RX1 yX1_isCollecting yX1_isCollecting, .code yX1_isCollecting cX1_isCollecting 1 (some .boolean), .fieldLink RX1 21 "NoticeStations$OpenWrite" "next" "LNoticeStations$Standing;", .methodLink RX1 36 yX1_isOfGroup, .instanceMethod yX1_isOfGroup, .selects RX1 yX1_isOfGroup yX1_isOfGroup, .code yX1_isOfGroup cX1_isOfGroup 2 (some .boolean)] ++ wsX10)
def wsX1_groupSize : List Cond := .code yX1_groupSize cX1_groupSize 3 (some .int) :: ([.methodLink RX1 36 yX1_isOfGroup, .instanceMethod yX1_isOfGroup, .selects RX1 yX1_isOfGroup yX1_isOfGroup, .initialized RX1, .code yX1_isOfGroup cX1_isOfGroup 2 (some .boolean), .fieldLink RX1 11 "NoticeStations$OpenWrite" "granted" "[LNoticeStations$Standing;"] ++ wsX10)
def wsX1_leastOfGroup : List Cond := .code yX1_leastOfGroup cX1_leastOfGroup 2 (some .int) :: ([.methodLink RX1 36 yX1_isOfGroup, .instanceMethod yX1_isOfGroup, .selects RX1 yX1_isOfGroup yX1_isOfGroup, .initialized RX1, .code yX1_isOfGroup cX1_isOfGroup 2 (some .boolean), .fieldLink RX1 11 "NoticeStations$OpenWrite" "granted" "[LNoticeStations$Standing;"] ++ wsX10)
def wsJ7_copyOf_59c91 : List Cond := .code yJ7_copyOf_59c91 cJ7_copyOf_59c91 3 (some (.array .int)) :: ([.methodLink RJ7 316 ⟨"[I", "clone", "()Ljava/lang/Object;"⟩, .sameMethod "[I" "java/lang/Object" "clone" "()Ljava/lang/Object;", .native ⟨"java/lang/Object", "clone", "()Ljava/lang/Object;"⟩, .instanceMethod ⟨"java/lang/Object", "clone", "()Ljava/lang/Object;"⟩, .selects "[I" ⟨"[I", "clone", "()Ljava/lang/Object;"⟩ ⟨"java/lang/Object", "clone", "()Ljava/lang/Object;"⟩, .classLink RJ7 317 "[I", .arrayClass .int, .methodLink RJ7 304 Lib.Math.min.name, .static Lib.Math.min.name, .initialized "java/lang/Math", .code Lib.Math.min.name Lib.Math.min.code 2 (some .int), .methodLink RJ7 150 arraycopyName, .native arraycopyName, .static arraycopyName, .initialized "java/lang/System"])
def wsX2_init : List Cond := .code yX2_init cX2_init 5 none :: ([.methodLink RX2 1 objectInit, .instanceMethod objectInit, .code objectInit ⟨#[0xb1]⟩ 1 none, .fieldLink RX2 7 "NoticeStations$Standing" "entries" "[I", .fieldLink RX2 13 "NoticeStations$Standing" "numbers" "[I", .fieldLink RX2 16 "NoticeStations$Standing" "size" "I", .fieldLink RX2 20 "NoticeStations$Standing" "named" "I"] ++ wsX20)
def wsX2_followedBy_r1 : List Cond := [Cond.fieldLink RX2 7 "NoticeStations$Standing" "entries" "[I", Cond.fieldLink RX2 13 "NoticeStations$Standing" "numbers" "[I", Cond.classLink RX2 8 RX2, Cond.instantiable RX2 4, Cond.initialized RX2, Cond.methodLink RX2 33 yX2_length, Cond.instanceMethod yX2_length, Cond.selects RX2 yX2_length yX2_length, Cond.code yX2_length cX2_length 1 (some .int), Cond.methodLink RX2 37 yJ7_copyOf_59c91, Cond.static yJ7_copyOf_59c91, Cond.initialized RJ7, Cond.code yJ7_copyOf_59c91 cJ7_copyOf_59c91 3 (some (.array .int)), Cond.methodLink RJ7 316 ⟨"[I", "clone", "()Ljava/lang/Object;"⟩, Cond.sameMethod "[I" "java/lang/Object" "clone" "()Ljava/lang/Object;", Cond.native ⟨"java/lang/Object", "clone", "()Ljava/lang/Object;"⟩, Cond.instanceMethod ⟨"java/lang/Object", "clone", "()Ljava/lang/Object;"⟩, Cond.selects "[I" ⟨"[I", "clone", "()Ljava/lang/Object;"⟩ ⟨"java/lang/Object", "clone", "()Ljava/lang/Object;"⟩, Cond.classLink RJ7 317 "[I", Cond.arrayClass .int, Cond.methodLink RJ7 304 Lib.Math.min.name, Cond.static Lib.Math.min.name, Cond.initialized "java/lang/Math", Cond.code Lib.Math.min.name Lib.Math.min.code 2 (some .int)]
def wsX2_followedBy_r2 : List Cond := [Cond.methodLink RJ7 150 arraycopyName, Cond.native arraycopyName, Cond.static arraycopyName, Cond.initialized "java/lang/System", Cond.methodLink RX2 43 yX2_init, Cond.instanceMethod yX2_init, Cond.code yX2_init cX2_init 5 none, Cond.methodLink RX2 1 objectInit, Cond.instanceMethod objectInit, Cond.code objectInit ⟨#[0xb1]⟩ 1 none, Cond.fieldLink RX2 16 "NoticeStations$Standing" "size" "I", Cond.fieldLink RX2 20 "NoticeStations$Standing" "named" "I"]
def wsX2_followedBy : List Cond := .code yX2_followedBy cX2_followedBy 8 (some (.object "NoticeStations$Standing")) :: ((wsX2_followedBy_r1 ++ wsX2_followedBy_r2) ++ wsX20)
def wsX1_prepareFrom_r1 : List Cond := [Cond.fieldLink RX1 29 "NoticeStations$OpenWrite" "entry" "I", Cond.fieldLink RX1 25 "NoticeStations$OpenWrite" "number" "I", Cond.fieldLink RX1 21 "NoticeStations$OpenWrite" "next" "LNoticeStations$Standing;", Cond.fieldLink RX1 17 "NoticeStations$OpenWrite" "prepared" "[Z", Cond.methodLink RX1 43 yX1_groupSize, Cond.instanceMethod yX1_groupSize, Cond.selects RX1 yX1_groupSize yX1_groupSize, Cond.initialized RX1, Cond.code yX1_groupSize cX1_groupSize 3 (some .int), Cond.methodLink RX1 36 yX1_isOfGroup, Cond.instanceMethod yX1_isOfGroup, Cond.selects RX1 yX1_isOfGroup yX1_isOfGroup, Cond.code yX1_isOfGroup cX1_isOfGroup 2 (some .boolean), Cond.fieldLink RX1 11 "NoticeStations$OpenWrite" "granted" "[LNoticeStations$Standing;", Cond.methodLink RX1 47 yX1_leastOfGroup, Cond.instanceMethod yX1_leastOfGroup, Cond.selects RX1 yX1_leastOfGroup yX1_leastOfGroup, Cond.code yX1_leastOfGroup cX1_leastOfGroup 2 (some .int), Cond.instanceMethod yX2_followedBy, Cond.initialized RX2, Cond.selects RX2 yX2_followedBy yX2_followedBy, Cond.code yX2_followedBy cX2_followedBy 8 (some (.object "NoticeStations$Standing")), Cond.fieldLink RX2 7 "NoticeStations$Standing" "entries" "[I", Cond.fieldLink RX2 13 "NoticeStations$Standing" "numbers" "[I"]
def wsX1_prepareFrom_r2 : List Cond := [Cond.classLink RX2 8 RX2, Cond.instantiable RX2 4, Cond.methodLink RX2 33 yX2_length, Cond.instanceMethod yX2_length, Cond.selects RX2 yX2_length yX2_length, Cond.code yX2_length cX2_length 1 (some .int), Cond.methodLink RX2 37 yJ7_copyOf_59c91, Cond.static yJ7_copyOf_59c91, Cond.initialized RJ7, Cond.code yJ7_copyOf_59c91 cJ7_copyOf_59c91 3 (some (.array .int)), Cond.methodLink RJ7 316 ⟨"[I", "clone", "()Ljava/lang/Object;"⟩, Cond.sameMethod "[I" "java/lang/Object" "clone" "()Ljava/lang/Object;", Cond.native ⟨"java/lang/Object", "clone", "()Ljava/lang/Object;"⟩, Cond.instanceMethod ⟨"java/lang/Object", "clone", "()Ljava/lang/Object;"⟩, Cond.selects "[I" ⟨"[I", "clone", "()Ljava/lang/Object;"⟩ ⟨"java/lang/Object", "clone", "()Ljava/lang/Object;"⟩, Cond.classLink RJ7 317 "[I", Cond.arrayClass .int, Cond.methodLink RJ7 304 Lib.Math.min.name, Cond.static Lib.Math.min.name, Cond.initialized "java/lang/Math", Cond.code Lib.Math.min.name Lib.Math.min.code 2 (some .int), Cond.methodLink RJ7 150 arraycopyName, Cond.native arraycopyName, Cond.static arraycopyName]
def wsX1_prepareFrom_r3 : List Cond := [Cond.initialized "java/lang/System", Cond.methodLink RX2 43 yX2_init, Cond.instanceMethod yX2_init, Cond.code yX2_init cX2_init 5 none, Cond.methodLink RX2 1 objectInit, Cond.instanceMethod objectInit, Cond.code objectInit ⟨#[0xb1]⟩ 1 none, Cond.fieldLink RX2 16 "NoticeStations$Standing" "size" "I", Cond.fieldLink RX2 20 "NoticeStations$Standing" "named" "I"]
def wsX1_prepareFrom : List Cond := .code yX1_prepareFrom cX1_prepareFrom 3 none :: ((wsX1_prepareFrom_r1 ++ (wsX1_prepareFrom_r2 ++ wsX1_prepareFrom_r3)) ++ wsX10 ++ wsX20)
def wsX4_isBelow : List Cond := .code yX4_isBelow cX4_isBelow 2 (some .boolean) :: ([])
def wsX2_hasNoticeAt : List Cond := .code yX2_hasNoticeAt cX2_hasNoticeAt 2 (some .boolean) :: ([.fieldLink RX2 7 "NoticeStations$Standing" "entries" "[I", .static yX4_isBelow, .initialized RX4, .code yX4_isBelow cX4_isBelow 2 (some .boolean)] ++ wsX20)
def wsX4_withdrawalOf : List Cond := .code yX4_withdrawalOf cX4_withdrawalOf 1 (some .int) :: ([])
def wsX2_isWithdrawn : List Cond := .code yX2_isWithdrawn cX2_isWithdrawn 4 (some .boolean) :: ([.fieldLink RX2 7 "NoticeStations$Standing" "entries" "[I", .static yX4_withdrawalOf, .initialized RX4, .code yX4_withdrawalOf cX4_withdrawalOf 1 (some .int)] ++ wsX20)
def wsX2_hasNumber : List Cond := .code yX2_hasNumber cX2_hasNumber 3 (some .boolean) :: ([.fieldLink RX2 13 "NoticeStations$Standing" "numbers" "[I"] ++ wsX20)
def wsX3_init : List Cond := .code yX3_init cX3_init 3 none :: ([.methodLink RX3 3 objectInit, .instanceMethod objectInit, .code objectInit ⟨#[0xb1]⟩ 1 none, .fieldLink RX3 9 "NoticeStations$Station" "up" "Z", .fieldLink RX3 15 "NoticeStations$Station" "began" "I", .fieldLink RX3 19 "NoticeStations$Station" "preparedNumber" "I", .fieldLink RX3 22 "NoticeStations$Station" "preparedStanding" "LNoticeStations$Standing;", .fieldLink RX3 26 "NoticeStations$Station" "lock" "I", .fieldLink RX3 29 "NoticeStations$Station" "open" "LNoticeStations$OpenWrite;", .fieldLink RX3 33 "NoticeStations$Station" "own" "I", .fieldLink RX3 36 "NoticeStations$Station" "stored" "LNoticeStations$Standing;"] ++ wsX30)
def wsX3_isInDoubt : List Cond := .code yX3_isInDoubt cX3_isInDoubt 1 (some .boolean) :: ([.fieldLink RX3 22 "NoticeStations$Station" "preparedStanding" "LNoticeStations$Standing;"] ++ wsX30)
def wsX3_isPreparedFor : List Cond := .code yX3_isPreparedFor cX3_isPreparedFor 2 (some .boolean) :: ([.fieldLink RX3 19 "NoticeStations$Station" "preparedNumber" "I", .methodLink RX3 39 yX3_isInDoubt, .instanceMethod yX3_isInDoubt, .selects RX3 yX3_isInDoubt yX3_isInDoubt, .initialized RX3, .code yX3_isInDoubt cX3_isInDoubt 1 (some .boolean), .fieldLink RX3 22 "NoticeStations$Station" "preparedStanding" "LNoticeStations$Standing;"] ++ wsX30)
def wsX3_isFree : List Cond := .code yX3_isFree cX3_isFree 1 (some .boolean) :: ([.fieldLink RX3 9 "NoticeStations$Station" "up" "Z", .fieldLink RX3 26 "NoticeStations$Station" "lock" "I", .methodLink RX3 39 yX3_isInDoubt, .instanceMethod yX3_isInDoubt, .selects RX3 yX3_isInDoubt yX3_isInDoubt, .initialized RX3, .code yX3_isInDoubt cX3_isInDoubt 1 (some .boolean), .fieldLink RX3 22 "NoticeStations$Station" "preparedStanding" "LNoticeStations$Standing;"] ++ wsX30)
def wsX3_forgetWrite : List Cond := .code yX3_forgetWrite cX3_forgetWrite 1 none :: ([.fieldLink RX3 26 "NoticeStations$Station" "lock" "I", .fieldLink RX3 29 "NoticeStations$Station" "open" "LNoticeStations$OpenWrite;"] ++ wsX30)
def wsX3_endDoubt : List Cond := .code yX3_endDoubt cX3_endDoubt 1 none :: ([.fieldLink RX3 19 "NoticeStations$Station" "preparedNumber" "I", .fieldLink RX3 22 "NoticeStations$Station" "preparedStanding" "LNoticeStations$Standing;"] ++ wsX30)
def wsX3_hasEndedWrite : List Cond := .code yX3_hasEndedWrite cX3_hasEndedWrite 2 (some .boolean) :: ([.fieldLink RX3 33 "NoticeStations$Station" "own" "I", .fieldLink RX3 29 "NoticeStations$Station" "open" "LNoticeStations$OpenWrite;"] ++ wsX30 ++ wsX10)
def wsJxa1e45_init_da8c8 : List Cond := .code yJxa1e45_init_da8c8 cJxa1e45_init_da8c8 1 none :: ([.methodLink RJxa1e45 1 objectInit, .instanceMethod objectInit, .code objectInit ⟨#[0xb1]⟩ 1 none])
def wsJxc12de_init_da8c8 : List Cond := .code yJxc12de_init_da8c8 cJxc12de_init_da8c8 1 none :: ([.fieldLink RJxc12de 7 "java/util/AbstractList" "modCount" "I", .methodLink RJxc12de 1 yJxa1e45_init_da8c8, .instanceMethod yJxa1e45_init_da8c8, .initialized RJxa1e45, .code yJxa1e45_init_da8c8 cJxa1e45_init_da8c8 1 none, .methodLink RJxa1e45 1 objectInit, .instanceMethod objectInit, .code objectInit ⟨#[0xb1]⟩ 1 none] ++ wsJx4a65c0)
def wsJx4a65c_init_da8c8 : List Cond := .code yJx4a65c_init_da8c8 cJx4a65c_init_da8c8 1 none :: ([.fieldLink RJx4a65c 39 "java/util/ArrayList" "DEFAULTCAPACITY_EMPTY_ELEMENTDATA" "[Ljava/lang/Object;", .fieldLink RJx4a65c 9 "java/util/ArrayList" "elementData" "[Ljava/lang/Object;", .methodLink RJx4a65c 1 yJxc12de_init_da8c8, .instanceMethod yJxc12de_init_da8c8, .initialized RJxc12de, .code yJxc12de_init_da8c8 cJxc12de_init_da8c8 1 none, .fieldLink RJxc12de 7 "java/util/AbstractList" "modCount" "I", .methodLink RJxc12de 1 yJxa1e45_init_da8c8, .instanceMethod yJxa1e45_init_da8c8, .initialized RJxa1e45, .code yJxa1e45_init_da8c8 cJxa1e45_init_da8c8 1 none, .methodLink RJxa1e45 1 objectInit, .instanceMethod objectInit, .code objectInit ⟨#[0xb1]⟩ 1 none] ++ wsJx4a65c0)
def wsX4_init_r1 : List Cond := [Cond.methodLink RX4 1 objectInit, Cond.instanceMethod objectInit, Cond.code objectInit ⟨#[0xb1]⟩ 1 none, Cond.classLink RX4 9 RX3, Cond.fieldLink RX4 11 "NoticeStations" "stations" "[LNoticeStations$Station;", Cond.arrayClass .int, Cond.fieldLink RX4 15 "NoticeStations" "cables" "[I", Cond.classLink RX4 19 RJx4a65c, Cond.instantiable RJx4a65c 3, Cond.initialized RJx4a65c, Cond.fieldLink RX4 22 "NoticeStations" "row" "Ljava/util/ArrayList;", Cond.classLink RX4 26 RX2, Cond.fieldLink RX4 28 "NoticeStations" "asIfGranted" "[LNoticeStations$Standing;", Cond.instantiable RX2 4, Cond.initialized RX2, Cond.instantiable RX3 8, Cond.initialized RX3, Cond.methodLink RX4 21 yJx4a65c_init_da8c8, Cond.instanceMethod yJx4a65c_init_da8c8, Cond.code yJx4a65c_init_da8c8 cJx4a65c_init_da8c8 1 none, Cond.fieldLink RJx4a65c 39 "java/util/ArrayList" "DEFAULTCAPACITY_EMPTY_ELEMENTDATA" "[Ljava/lang/Object;", Cond.fieldLink RJx4a65c 9 "java/util/ArrayList" "elementData" "[Ljava/lang/Object;", Cond.methodLink RJx4a65c 1 yJxc12de_init_da8c8, Cond.instanceMethod yJxc12de_init_da8c8]
def wsX4_init_r2 : List Cond := [Cond.initialized RJxc12de, Cond.code yJxc12de_init_da8c8 cJxc12de_init_da8c8 1 none, Cond.fieldLink RJxc12de 7 "java/util/AbstractList" "modCount" "I", Cond.methodLink RJxc12de 1 yJxa1e45_init_da8c8, Cond.instanceMethod yJxa1e45_init_da8c8, Cond.initialized RJxa1e45, Cond.code yJxa1e45_init_da8c8 cJxa1e45_init_da8c8 1 none, Cond.methodLink RJxa1e45 1 objectInit, Cond.instanceMethod yX2_init, Cond.code yX2_init cX2_init 5 none, Cond.methodLink RX2 1 objectInit, Cond.fieldLink RX2 7 "NoticeStations$Standing" "entries" "[I", Cond.fieldLink RX2 13 "NoticeStations$Standing" "numbers" "[I", Cond.fieldLink RX2 16 "NoticeStations$Standing" "size" "I", Cond.fieldLink RX2 20 "NoticeStations$Standing" "named" "I", Cond.instanceMethod yX3_init, Cond.code yX3_init cX3_init 3 none, Cond.methodLink RX3 3 objectInit, Cond.fieldLink RX3 9 "NoticeStations$Station" "up" "Z", Cond.fieldLink RX3 15 "NoticeStations$Station" "began" "I", Cond.fieldLink RX3 19 "NoticeStations$Station" "preparedNumber" "I", Cond.fieldLink RX3 22 "NoticeStations$Station" "preparedStanding" "LNoticeStations$Standing;", Cond.fieldLink RX3 26 "NoticeStations$Station" "lock" "I", Cond.fieldLink RX3 29 "NoticeStations$Station" "open" "LNoticeStations$OpenWrite;"]
def wsX4_init_r3 : List Cond := [Cond.fieldLink RX3 33 "NoticeStations$Station" "own" "I", Cond.fieldLink RX3 36 "NoticeStations$Station" "stored" "LNoticeStations$Standing;"]
def wsX4_init : List Cond := .code yX4_init cX4_init 3 none :: ((wsX4_init_r1 ++ (wsX4_init_r2 ++ wsX4_init_r3)) ++ wsX40 ++ wsJx4a65c0 ++ wsX20 ++ wsX30)
def wsX4_requireTwoStations : List Cond := .code yX4_requireTwoStations cX4_requireTwoStations 3 none :: ([.classLink RX4 247 "java/lang/IndexOutOfBoundsException", .initialized "java/lang/IndexOutOfBoundsException", .methodLink RX4 46 yX4_isBelow, .static yX4_isBelow, .initialized RX4, .code yX4_isBelow cX4_isBelow 2 (some .boolean)] ++ (vx_atS RX4 251 "java/lang/IndexOutOfBoundsException" ["java/lang/RuntimeException", "java/lang/Exception"]).filter goodWord)
def wsX4_cable : List Cond := .code yX4_cable cX4_cable 5 (some .boolean) :: ([.fieldLink RX4 15 "NoticeStations" "cables" "[I", .methodLink RX4 38 yX4_requireTwoStations, .instanceMethod yX4_requireTwoStations, .selects RX4 yX4_requireTwoStations yX4_requireTwoStations, .initialized RX4, .code yX4_requireTwoStations cX4_requireTwoStations 3 none, .classLink RX4 247 "java/lang/IndexOutOfBoundsException", .initialized "java/lang/IndexOutOfBoundsException", .methodLink RX4 46 yX4_isBelow, .static yX4_isBelow, .code yX4_isBelow cX4_isBelow 2 (some .boolean)] ++ wsX40 ++ (vx_atS RX4 251 "java/lang/IndexOutOfBoundsException" ["java/lang/RuntimeException", "java/lang/Exception"]).filter goodWord)
def wsX4_stationAt : List Cond := .code yX4_stationAt cX4_stationAt 2 (some (.object "NoticeStations$Station")) :: ([.classLink RX4 247 "java/lang/IndexOutOfBoundsException", .initialized "java/lang/IndexOutOfBoundsException", .fieldLink RX4 11 "NoticeStations" "stations" "[LNoticeStations$Station;", .methodLink RX4 46 yX4_isBelow, .static yX4_isBelow, .initialized RX4, .code yX4_isBelow cX4_isBelow 2 (some .boolean)] ++ wsX40 ++ (vx_atS RX4 251 "java/lang/IndexOutOfBoundsException" ["java/lang/RuntimeException", "java/lang/Exception"]).filter goodWord)
def wsJx4a65c_size_8abf5 : List Cond := .code yJx4a65c_size_8abf5 cJx4a65c_size_8abf5 1 (some .int) :: ([.fieldLink RJx4a65c 48 "java/util/ArrayList" "size" "I"] ++ wsJx4a65c0)
def wsX4_requireRoomFor : List Cond := .code yX4_requireRoomFor cX4_requireRoomFor 2 none :: ([.classLink RX4 111 "java/lang/UnsupportedOperationException", .initialized "java/lang/UnsupportedOperationException", .fieldLink RX4 22 "NoticeStations" "row" "Ljava/util/ArrayList;", .methodLink RX4 175 yJx4a65c_size_8abf5, .instanceMethod yJx4a65c_size_8abf5, .selects RJx4a65c yJx4a65c_size_8abf5 yJx4a65c_size_8abf5, .initialized RJx4a65c, .code yJx4a65c_size_8abf5 cJx4a65c_size_8abf5 1 (some .int), .fieldLink RJx4a65c 48 "java/util/ArrayList" "size" "I"] ++ wsX40 ++ wsJx4a65c0 ++ (vx_atS RX4 115 "java/lang/UnsupportedOperationException" ["java/lang/RuntimeException", "java/lang/Exception"]).filter goodWord)
def wsJ8_hugeLength_7cf53 : List Cond := .code yJ8_hugeLength_7cf53 cJ8_hugeLength_7cf53 3 (some .int) :: ([.constant RJ8 200 (2147483639)])
def wsJ8_newLength_cabcc : List Cond := .code yJ8_newLength_cabcc cJ8_newLength_cabcc 4 (some .int) :: ([.methodLink RJ8 194 Lib.Math.max.name, .static Lib.Math.max.name, .initialized "java/lang/Math", .code Lib.Math.max.name Lib.Math.max.code 2 (some .int), .constant RJ8 200 (2147483639), .methodLink RJ8 201 yJ8_hugeLength_7cf53, .static yJ8_hugeLength_7cf53, .initialized RJ8, .code yJ8_hugeLength_7cf53 cJ8_hugeLength_7cf53 3 (some .int)])
def wsJ7_copyOf_6403c : List Cond := .code yJ7_copyOf_6403c cJ7_copyOf_6403c 4 (some (.array (.object "java/lang/Object"))) :: ([.classLink RJ7 110 "[Ljava/lang/Object;", .classLink RJ7 2 "java/lang/Object", .methodLink RJ7 304 Lib.Math.min.name, .static Lib.Math.min.name, .initialized "java/lang/Math", .code Lib.Math.min.name Lib.Math.min.code 2 (some .int), .methodLink RJ7 150 arraycopyName, .native arraycopyName, .static arraycopyName, .initialized "java/lang/System"])
def wsJ7_copyOf_1904c : List Cond := .code yJ7_copyOf_1904c cJ7_copyOf_1904c 2 (some (.array (.object "java/lang/Object"))) :: ([.methodLink RJ7 86 ⟨"java/lang/Object", "getClass", "()Ljava/lang/Class;"⟩, .selects "[Ljava/lang/Object;" ⟨"java/lang/Object", "getClass", "()Ljava/lang/Class;"⟩ ⟨"java/lang/Object", "getClass", "()Ljava/lang/Class;"⟩, .instanceMethod ⟨"java/lang/Object", "getClass", "()Ljava/lang/Class;"⟩, .native ⟨"java/lang/Object", "getClass", "()Ljava/lang/Class;"⟩, .methodLink RJ7 300 yJ7_copyOf_6403c, .static yJ7_copyOf_6403c, .initialized RJ7, .code yJ7_copyOf_6403c cJ7_copyOf_6403c 4 (some (.array (.object "java/lang/Object"))), .classLink RJ7 110 "[Ljava/lang/Object;", .classLink RJ7 2 "java/lang/Object", .methodLink RJ7 304 Lib.Math.min.name, .static Lib.Math.min.name, .initialized "java/lang/Math", .code Lib.Math.min.name Lib.Math.min.code 2 (some .int), .methodLink RJ7 150 arraycopyName, .native arraycopyName, .static arraycopyName, .initialized "java/lang/System"])
def wsJx4a65c_grow_92f84_r1 : List Cond := [Cond.fieldLink RJx4a65c 9 "java/util/ArrayList" "elementData" "[Ljava/lang/Object;", Cond.fieldLink RJx4a65c 39 "java/util/ArrayList" "DEFAULTCAPACITY_EMPTY_ELEMENTDATA" "[Ljava/lang/Object;", Cond.methodLink RJx4a65c 79 Lib.Math.max.name, Cond.static Lib.Math.max.name, Cond.initialized "java/lang/Math", Cond.code Lib.Math.max.name Lib.Math.max.code 2 (some .int), Cond.classLink RJx4a65c 7 "java/lang/Object", Cond.methodLink RJx4a65c 73 yJ8_newLength_cabcc, Cond.static yJ8_newLength_cabcc, Cond.initialized RJ8, Cond.code yJ8_newLength_cabcc cJ8_newLength_cabcc 4 (some .int), Cond.methodLink RJ8 194 Lib.Math.max.name, Cond.constant RJ8 200 (2147483639), Cond.methodLink RJ8 201 yJ8_hugeLength_7cf53, Cond.static yJ8_hugeLength_7cf53, Cond.code yJ8_hugeLength_7cf53 cJ8_hugeLength_7cf53 3 (some .int), Cond.methodLink RJx4a65c 66 yJ7_copyOf_1904c, Cond.static yJ7_copyOf_1904c, Cond.initialized RJ7, Cond.code yJ7_copyOf_1904c cJ7_copyOf_1904c 2 (some (.array (.object "java/lang/Object"))), Cond.methodLink RJ7 86 ⟨"java/lang/Object", "getClass", "()Ljava/lang/Class;"⟩, Cond.selects "[Ljava/lang/Object;" ⟨"java/lang/Object", "getClass", "()Ljava/lang/Class;"⟩ ⟨"java/lang/Object", "getClass", "()Ljava/lang/Class;"⟩, Cond.instanceMethod ⟨"java/lang/Object", "getClass", "()Ljava/lang/Class;"⟩, Cond.native ⟨"java/lang/Object", "getClass", "()Ljava/lang/Class;"⟩]
def wsJx4a65c_grow_92f84_r2 : List Cond := [Cond.methodLink RJ7 300 yJ7_copyOf_6403c, Cond.static yJ7_copyOf_6403c, Cond.code yJ7_copyOf_6403c cJ7_copyOf_6403c 4 (some (.array (.object "java/lang/Object"))), Cond.classLink RJ7 110 "[Ljava/lang/Object;", Cond.classLink RJ7 2 "java/lang/Object", Cond.methodLink RJ7 304 Lib.Math.min.name, Cond.static Lib.Math.min.name, Cond.code Lib.Math.min.name Lib.Math.min.code 2 (some .int), Cond.methodLink RJ7 150 arraycopyName, Cond.native arraycopyName, Cond.static arraycopyName, Cond.initialized "java/lang/System"]
def wsJx4a65c_grow_92f84 : List Cond := .code yJx4a65c_grow_92f84 cJx4a65c_grow_92f84 4 (some (.array (.object "java/lang/Object"))) :: ((wsJx4a65c_grow_92f84_r1 ++ wsJx4a65c_grow_92f84_r2) ++ wsJx4a65c0)
def wsJx4a65c_grow_d5877_r1 : List Cond := [Cond.fieldLink RJx4a65c 48 "java/util/ArrayList" "size" "I", Cond.methodLink RJx4a65c 69 yJx4a65c_grow_92f84, Cond.instanceMethod yJx4a65c_grow_92f84, Cond.selects RJx4a65c yJx4a65c_grow_92f84 yJx4a65c_grow_92f84, Cond.initialized RJx4a65c, Cond.code yJx4a65c_grow_92f84 cJx4a65c_grow_92f84 4 (some (.array (.object "java/lang/Object"))), Cond.fieldLink RJx4a65c 9 "java/util/ArrayList" "elementData" "[Ljava/lang/Object;", Cond.fieldLink RJx4a65c 39 "java/util/ArrayList" "DEFAULTCAPACITY_EMPTY_ELEMENTDATA" "[Ljava/lang/Object;", Cond.methodLink RJx4a65c 79 Lib.Math.max.name, Cond.static Lib.Math.max.name, Cond.initialized "java/lang/Math", Cond.code Lib.Math.max.name Lib.Math.max.code 2 (some .int), Cond.classLink RJx4a65c 7 "java/lang/Object", Cond.methodLink RJx4a65c 73 yJ8_newLength_cabcc, Cond.static yJ8_newLength_cabcc, Cond.initialized RJ8, Cond.code yJ8_newLength_cabcc cJ8_newLength_cabcc 4 (some .int), Cond.methodLink RJ8 194 Lib.Math.max.name, Cond.constant RJ8 200 (2147483639), Cond.methodLink RJ8 201 yJ8_hugeLength_7cf53, Cond.static yJ8_hugeLength_7cf53, Cond.code yJ8_hugeLength_7cf53 cJ8_hugeLength_7cf53 3 (some .int), Cond.methodLink RJx4a65c 66 yJ7_copyOf_1904c, Cond.static yJ7_copyOf_1904c]
def wsJx4a65c_grow_d5877_r2 : List Cond := [Cond.initialized RJ7, Cond.code yJ7_copyOf_1904c cJ7_copyOf_1904c 2 (some (.array (.object "java/lang/Object"))), Cond.methodLink RJ7 86 ⟨"java/lang/Object", "getClass", "()Ljava/lang/Class;"⟩, Cond.selects "[Ljava/lang/Object;" ⟨"java/lang/Object", "getClass", "()Ljava/lang/Class;"⟩ ⟨"java/lang/Object", "getClass", "()Ljava/lang/Class;"⟩, Cond.instanceMethod ⟨"java/lang/Object", "getClass", "()Ljava/lang/Class;"⟩, Cond.native ⟨"java/lang/Object", "getClass", "()Ljava/lang/Class;"⟩, Cond.methodLink RJ7 300 yJ7_copyOf_6403c, Cond.static yJ7_copyOf_6403c, Cond.code yJ7_copyOf_6403c cJ7_copyOf_6403c 4 (some (.array (.object "java/lang/Object"))), Cond.classLink RJ7 110 "[Ljava/lang/Object;", Cond.classLink RJ7 2 "java/lang/Object", Cond.methodLink RJ7 304 Lib.Math.min.name, Cond.static Lib.Math.min.name, Cond.code Lib.Math.min.name Lib.Math.min.code 2 (some .int), Cond.methodLink RJ7 150 arraycopyName, Cond.native arraycopyName, Cond.static arraycopyName, Cond.initialized "java/lang/System"]
def wsJx4a65c_grow_d5877 : List Cond := .code yJx4a65c_grow_d5877 cJx4a65c_grow_d5877 1 (some (.array (.object "java/lang/Object"))) :: ((wsJx4a65c_grow_d5877_r1 ++ wsJx4a65c_grow_d5877_r2) ++ wsJx4a65c0)
def wsJx4a65c_add_72be8_r1 : List Cond := [Cond.fieldLink RJx4a65c 48 "java/util/ArrayList" "size" "I", Cond.methodLink RJx4a65c 129 yJx4a65c_grow_d5877, Cond.instanceMethod yJx4a65c_grow_d5877, Cond.selects RJx4a65c yJx4a65c_grow_d5877 yJx4a65c_grow_d5877, Cond.initialized RJx4a65c, Cond.code yJx4a65c_grow_d5877 cJx4a65c_grow_d5877 1 (some (.array (.object "java/lang/Object"))), Cond.methodLink RJx4a65c 69 yJx4a65c_grow_92f84, Cond.instanceMethod yJx4a65c_grow_92f84, Cond.selects RJx4a65c yJx4a65c_grow_92f84 yJx4a65c_grow_92f84, Cond.code yJx4a65c_grow_92f84 cJx4a65c_grow_92f84 4 (some (.array (.object "java/lang/Object"))), Cond.fieldLink RJx4a65c 9 "java/util/ArrayList" "elementData" "[Ljava/lang/Object;", Cond.fieldLink RJx4a65c 39 "java/util/ArrayList" "DEFAULTCAPACITY_EMPTY_ELEMENTDATA" "[Ljava/lang/Object;", Cond.methodLink RJx4a65c 79 Lib.Math.max.name, Cond.static Lib.Math.max.name, Cond.initialized "java/lang/Math", Cond.code Lib.Math.max.name Lib.Math.max.code 2 (some .int), Cond.classLink RJx4a65c 7 "java/lang/Object", Cond.methodLink RJx4a65c 73 yJ8_newLength_cabcc, Cond.static yJ8_newLength_cabcc, Cond.initialized RJ8, Cond.code yJ8_newLength_cabcc cJ8_newLength_cabcc 4 (some .int), Cond.methodLink RJ8 194 Lib.Math.max.name, Cond.constant RJ8 200 (2147483639), Cond.methodLink RJ8 201 yJ8_hugeLength_7cf53]
def wsJx4a65c_add_72be8_r2 : List Cond := [Cond.static yJ8_hugeLength_7cf53, Cond.code yJ8_hugeLength_7cf53 cJ8_hugeLength_7cf53 3 (some .int), Cond.methodLink RJx4a65c 66 yJ7_copyOf_1904c, Cond.static yJ7_copyOf_1904c, Cond.initialized RJ7, Cond.code yJ7_copyOf_1904c cJ7_copyOf_1904c 2 (some (.array (.object "java/lang/Object"))), Cond.methodLink RJ7 86 ⟨"java/lang/Object", "getClass", "()Ljava/lang/Class;"⟩, Cond.selects "[Ljava/lang/Object;" ⟨"java/lang/Object", "getClass", "()Ljava/lang/Class;"⟩ ⟨"java/lang/Object", "getClass", "()Ljava/lang/Class;"⟩, Cond.instanceMethod ⟨"java/lang/Object", "getClass", "()Ljava/lang/Class;"⟩, Cond.native ⟨"java/lang/Object", "getClass", "()Ljava/lang/Class;"⟩, Cond.methodLink RJ7 300 yJ7_copyOf_6403c, Cond.static yJ7_copyOf_6403c, Cond.code yJ7_copyOf_6403c cJ7_copyOf_6403c 4 (some (.array (.object "java/lang/Object"))), Cond.classLink RJ7 110 "[Ljava/lang/Object;", Cond.classLink RJ7 2 "java/lang/Object", Cond.methodLink RJ7 304 Lib.Math.min.name, Cond.static Lib.Math.min.name, Cond.code Lib.Math.min.name Lib.Math.min.code 2 (some .int), Cond.methodLink RJ7 150 arraycopyName, Cond.native arraycopyName, Cond.static arraycopyName, Cond.initialized "java/lang/System"]
def wsJx4a65c_add_72be8 : List Cond := .code yJx4a65c_add_72be8 cJx4a65c_add_72be8 4 none :: ((wsJx4a65c_add_72be8_r1 ++ wsJx4a65c_add_72be8_r2) ++ wsJx4a65c0)
def wsJx4a65c_add_9ea2d_r1 : List Cond := [Cond.fieldLink RJx4a65c 63 "java/util/ArrayList" "modCount" "I", Cond.sameField "java/util/ArrayList" "java/util/AbstractList" "modCount" "I", Cond.fieldLink RJx4a65c 9 "java/util/ArrayList" "elementData" "[Ljava/lang/Object;", Cond.fieldLink RJx4a65c 48 "java/util/ArrayList" "size" "I", Cond.methodLink RJx4a65c 131 yJx4a65c_add_72be8, Cond.instanceMethod yJx4a65c_add_72be8, Cond.selects RJx4a65c yJx4a65c_add_72be8 yJx4a65c_add_72be8, Cond.initialized RJx4a65c, Cond.code yJx4a65c_add_72be8 cJx4a65c_add_72be8 4 none, Cond.methodLink RJx4a65c 129 yJx4a65c_grow_d5877, Cond.instanceMethod yJx4a65c_grow_d5877, Cond.selects RJx4a65c yJx4a65c_grow_d5877 yJx4a65c_grow_d5877, Cond.code yJx4a65c_grow_d5877 cJx4a65c_grow_d5877 1 (some (.array (.object "java/lang/Object"))), Cond.methodLink RJx4a65c 69 yJx4a65c_grow_92f84, Cond.instanceMethod yJx4a65c_grow_92f84, Cond.selects RJx4a65c yJx4a65c_grow_92f84 yJx4a65c_grow_92f84, Cond.code yJx4a65c_grow_92f84 cJx4a65c_grow_92f84 4 (some (.array (.object "java/lang/Object"))), Cond.fieldLink RJx4a65c 39 "java/util/ArrayList" "DEFAULTCAPACITY_EMPTY_ELEMENTDATA" "[Ljava/lang/Object;", Cond.methodLink RJx4a65c 79 Lib.Math.max.name, Cond.static Lib.Math.max.name, Cond.initialized "java/lang/Math", Cond.code Lib.Math.max.name Lib.Math.max.code 2 (some .int), Cond.classLink RJx4a65c 7 "java/lang/Object", Cond.methodLink RJx4a65c 73 yJ8_newLength_cabcc]
def wsJx4a65c_add_9ea2d_r2 : List Cond := [Cond.static yJ8_newLength_cabcc, Cond.initialized RJ8, Cond.code yJ8_newLength_cabcc cJ8_newLength_cabcc 4 (some .int), Cond.methodLink RJ8 194 Lib.Math.max.name, Cond.constant RJ8 200 (2147483639), Cond.methodLink RJ8 201 yJ8_hugeLength_7cf53, Cond.static yJ8_hugeLength_7cf53, Cond.code yJ8_hugeLength_7cf53 cJ8_hugeLength_7cf53 3 (some .int), Cond.methodLink RJx4a65c 66 yJ7_copyOf_1904c, Cond.static yJ7_copyOf_1904c, Cond.initialized RJ7, Cond.code yJ7_copyOf_1904c cJ7_copyOf_1904c 2 (some (.array (.object "java/lang/Object"))), Cond.methodLink RJ7 86 ⟨"java/lang/Object", "getClass", "()Ljava/lang/Class;"⟩, Cond.selects "[Ljava/lang/Object;" ⟨"java/lang/Object", "getClass", "()Ljava/lang/Class;"⟩ ⟨"java/lang/Object", "getClass", "()Ljava/lang/Class;"⟩, Cond.instanceMethod ⟨"java/lang/Object", "getClass", "()Ljava/lang/Class;"⟩, Cond.native ⟨"java/lang/Object", "getClass", "()Ljava/lang/Class;"⟩, Cond.methodLink RJ7 300 yJ7_copyOf_6403c, Cond.static yJ7_copyOf_6403c, Cond.code yJ7_copyOf_6403c cJ7_copyOf_6403c 4 (some (.array (.object "java/lang/Object"))), Cond.classLink RJ7 110 "[Ljava/lang/Object;", Cond.classLink RJ7 2 "java/lang/Object", Cond.methodLink RJ7 304 Lib.Math.min.name, Cond.static Lib.Math.min.name, Cond.code Lib.Math.min.name Lib.Math.min.code 2 (some .int)]
def wsJx4a65c_add_9ea2d_r3 : List Cond := [Cond.methodLink RJ7 150 arraycopyName, Cond.native arraycopyName, Cond.static arraycopyName, Cond.initialized "java/lang/System"]
def wsJx4a65c_add_9ea2d : List Cond := .code yJx4a65c_add_9ea2d cJx4a65c_add_9ea2d 2 (some .boolean) :: ((wsJx4a65c_add_9ea2d_r1 ++ (wsJx4a65c_add_9ea2d_r2 ++ wsJx4a65c_add_9ea2d_r3)) ++ wsJx4a65c0)
def wsX4_send_r1 : List Cond := [Cond.fieldLink RX4 22 "NoticeStations" "row" "Ljava/util/ArrayList;", Cond.classLink RX4 183 RX0, Cond.instantiable RX0 5, Cond.initialized RX0, Cond.instanceMethod yX0_init, Cond.code yX0_init cX0_init 6 none, Cond.methodLink RX0 1 objectInit, Cond.instanceMethod objectInit, Cond.code objectInit ⟨#[0xb1]⟩ 1 none, Cond.fieldLink RX0 7 "NoticeStations$Letter" "kind" "I", Cond.fieldLink RX0 13 "NoticeStations$Letter" "from" "I", Cond.fieldLink RX0 16 "NoticeStations$Letter" "to" "I", Cond.fieldLink RX0 19 "NoticeStations$Letter" "number" "I", Cond.fieldLink RX0 22 "NoticeStations$Letter" "standing" "LNoticeStations$Standing;", Cond.methodLink RX4 213 yJx4a65c_add_9ea2d, Cond.instanceMethod yJx4a65c_add_9ea2d, Cond.selects RJx4a65c yJx4a65c_add_9ea2d yJx4a65c_add_9ea2d, Cond.initialized RJx4a65c, Cond.code yJx4a65c_add_9ea2d cJx4a65c_add_9ea2d 2 (some .boolean), Cond.fieldLink RJx4a65c 63 "java/util/ArrayList" "modCount" "I", Cond.sameField "java/util/ArrayList" "java/util/AbstractList" "modCount" "I", Cond.fieldLink RJx4a65c 9 "java/util/ArrayList" "elementData" "[Ljava/lang/Object;", Cond.fieldLink RJx4a65c 48 "java/util/ArrayList" "size" "I", Cond.methodLink RJx4a65c 131 yJx4a65c_add_72be8]
def wsX4_send_r2 : List Cond := [Cond.instanceMethod yJx4a65c_add_72be8, Cond.selects RJx4a65c yJx4a65c_add_72be8 yJx4a65c_add_72be8, Cond.code yJx4a65c_add_72be8 cJx4a65c_add_72be8 4 none, Cond.methodLink RJx4a65c 129 yJx4a65c_grow_d5877, Cond.instanceMethod yJx4a65c_grow_d5877, Cond.selects RJx4a65c yJx4a65c_grow_d5877 yJx4a65c_grow_d5877, Cond.code yJx4a65c_grow_d5877 cJx4a65c_grow_d5877 1 (some (.array (.object "java/lang/Object"))), Cond.methodLink RJx4a65c 69 yJx4a65c_grow_92f84, Cond.instanceMethod yJx4a65c_grow_92f84, Cond.selects RJx4a65c yJx4a65c_grow_92f84 yJx4a65c_grow_92f84, Cond.code yJx4a65c_grow_92f84 cJx4a65c_grow_92f84 4 (some (.array (.object "java/lang/Object"))), Cond.fieldLink RJx4a65c 39 "java/util/ArrayList" "DEFAULTCAPACITY_EMPTY_ELEMENTDATA" "[Ljava/lang/Object;", Cond.methodLink RJx4a65c 79 Lib.Math.max.name, Cond.static Lib.Math.max.name, Cond.initialized "java/lang/Math", Cond.code Lib.Math.max.name Lib.Math.max.code 2 (some .int), Cond.classLink RJx4a65c 7 "java/lang/Object", Cond.methodLink RJx4a65c 73 yJ8_newLength_cabcc, Cond.static yJ8_newLength_cabcc, Cond.initialized RJ8, Cond.code yJ8_newLength_cabcc cJ8_newLength_cabcc 4 (some .int), Cond.methodLink RJ8 194 Lib.Math.max.name, Cond.constant RJ8 200 (2147483639), Cond.methodLink RJ8 201 yJ8_hugeLength_7cf53]
def wsX4_send_r3 : List Cond := [Cond.static yJ8_hugeLength_7cf53, Cond.code yJ8_hugeLength_7cf53 cJ8_hugeLength_7cf53 3 (some .int), Cond.methodLink RJx4a65c 66 yJ7_copyOf_1904c, Cond.static yJ7_copyOf_1904c, Cond.initialized RJ7, Cond.code yJ7_copyOf_1904c cJ7_copyOf_1904c 2 (some (.array (.object "java/lang/Object"))), Cond.methodLink RJ7 86 ⟨"java/lang/Object", "getClass", "()Ljava/lang/Class;"⟩, Cond.selects "[Ljava/lang/Object;" ⟨"java/lang/Object", "getClass", "()Ljava/lang/Class;"⟩ ⟨"java/lang/Object", "getClass", "()Ljava/lang/Class;"⟩, Cond.instanceMethod ⟨"java/lang/Object", "getClass", "()Ljava/lang/Class;"⟩, Cond.native ⟨"java/lang/Object", "getClass", "()Ljava/lang/Class;"⟩, Cond.methodLink RJ7 300 yJ7_copyOf_6403c, Cond.static yJ7_copyOf_6403c, Cond.code yJ7_copyOf_6403c cJ7_copyOf_6403c 4 (some (.array (.object "java/lang/Object"))), Cond.classLink RJ7 110 "[Ljava/lang/Object;", Cond.classLink RJ7 2 "java/lang/Object", Cond.methodLink RJ7 304 Lib.Math.min.name, Cond.static Lib.Math.min.name, Cond.code Lib.Math.min.name Lib.Math.min.code 2 (some .int), Cond.methodLink RJ7 150 arraycopyName, Cond.native arraycopyName, Cond.static arraycopyName, Cond.initialized "java/lang/System"]
def wsX4_send : List Cond := .code yX4_send cX4_send 6 none :: ((wsX4_send_r1 ++ (wsX4_send_r2 ++ wsX4_send_r3)) ++ wsX40 ++ wsX00 ++ wsJx4a65c0)
def wsX4_sendAwaited_r1 : List Cond := [Cond.instanceMethod yX1_awaits, Cond.initialized RX1, Cond.selects RX1 yX1_awaits yX1_awaits, Cond.code yX1_awaits cX1_awaits 2 (some .boolean), Cond.fieldLink RX1 11 "NoticeStations$OpenWrite" "granted" "[LNoticeStations$Standing;", Cond.fieldLink RX1 17 "NoticeStations$OpenWrite" "prepared" "[Z", Cond.methodLink RX1 32 yX1_isCollecting, Cond.instanceMethod yX1_isCollecting, Cond.selects RX1 yX1_isCollecting yX1_isCollecting, Cond.code yX1_isCollecting cX1_isCollecting 1 (some .boolean), Cond.fieldLink RX1 21 "NoticeStations$OpenWrite" "next" "LNoticeStations$Standing;", Cond.methodLink RX1 36 yX1_isOfGroup, Cond.instanceMethod yX1_isOfGroup, Cond.selects RX1 yX1_isOfGroup yX1_isOfGroup, Cond.code yX1_isOfGroup cX1_isOfGroup 2 (some .boolean), Cond.methodLink RX4 148 yX4_send, Cond.instanceMethod yX4_send, Cond.selects RX4 yX4_send yX4_send, Cond.initialized RX4, Cond.code yX4_send cX4_send 6 none, Cond.fieldLink RX4 22 "NoticeStations" "row" "Ljava/util/ArrayList;", Cond.classLink RX4 183 RX0, Cond.instantiable RX0 5, Cond.initialized RX0]
def wsX4_sendAwaited_r2 : List Cond := [Cond.instanceMethod yX0_init, Cond.code yX0_init cX0_init 6 none, Cond.methodLink RX0 1 objectInit, Cond.instanceMethod objectInit, Cond.code objectInit ⟨#[0xb1]⟩ 1 none, Cond.fieldLink RX0 7 "NoticeStations$Letter" "kind" "I", Cond.fieldLink RX0 13 "NoticeStations$Letter" "from" "I", Cond.fieldLink RX0 16 "NoticeStations$Letter" "to" "I", Cond.fieldLink RX0 19 "NoticeStations$Letter" "number" "I", Cond.fieldLink RX0 22 "NoticeStations$Letter" "standing" "LNoticeStations$Standing;", Cond.methodLink RX4 213 yJx4a65c_add_9ea2d, Cond.instanceMethod yJx4a65c_add_9ea2d, Cond.selects RJx4a65c yJx4a65c_add_9ea2d yJx4a65c_add_9ea2d, Cond.initialized RJx4a65c, Cond.code yJx4a65c_add_9ea2d cJx4a65c_add_9ea2d 2 (some .boolean), Cond.fieldLink RJx4a65c 63 "java/util/ArrayList" "modCount" "I", Cond.sameField "java/util/ArrayList" "java/util/AbstractList" "modCount" "I", Cond.fieldLink RJx4a65c 9 "java/util/ArrayList" "elementData" "[Ljava/lang/Object;", Cond.fieldLink RJx4a65c 48 "java/util/ArrayList" "size" "I", Cond.methodLink RJx4a65c 131 yJx4a65c_add_72be8, Cond.instanceMethod yJx4a65c_add_72be8, Cond.selects RJx4a65c yJx4a65c_add_72be8 yJx4a65c_add_72be8, Cond.code yJx4a65c_add_72be8 cJx4a65c_add_72be8 4 none, Cond.methodLink RJx4a65c 129 yJx4a65c_grow_d5877]
def wsX4_sendAwaited_r3 : List Cond := [Cond.instanceMethod yJx4a65c_grow_d5877, Cond.selects RJx4a65c yJx4a65c_grow_d5877 yJx4a65c_grow_d5877, Cond.code yJx4a65c_grow_d5877 cJx4a65c_grow_d5877 1 (some (.array (.object "java/lang/Object"))), Cond.methodLink RJx4a65c 69 yJx4a65c_grow_92f84, Cond.instanceMethod yJx4a65c_grow_92f84, Cond.selects RJx4a65c yJx4a65c_grow_92f84 yJx4a65c_grow_92f84, Cond.code yJx4a65c_grow_92f84 cJx4a65c_grow_92f84 4 (some (.array (.object "java/lang/Object"))), Cond.fieldLink RJx4a65c 39 "java/util/ArrayList" "DEFAULTCAPACITY_EMPTY_ELEMENTDATA" "[Ljava/lang/Object;", Cond.methodLink RJx4a65c 79 Lib.Math.max.name, Cond.static Lib.Math.max.name, Cond.initialized "java/lang/Math", Cond.code Lib.Math.max.name Lib.Math.max.code 2 (some .int), Cond.classLink RJx4a65c 7 "java/lang/Object", Cond.methodLink RJx4a65c 73 yJ8_newLength_cabcc, Cond.static yJ8_newLength_cabcc, Cond.initialized RJ8, Cond.code yJ8_newLength_cabcc cJ8_newLength_cabcc 4 (some .int), Cond.methodLink RJ8 194 Lib.Math.max.name, Cond.constant RJ8 200 (2147483639), Cond.methodLink RJ8 201 yJ8_hugeLength_7cf53, Cond.static yJ8_hugeLength_7cf53, Cond.code yJ8_hugeLength_7cf53 cJ8_hugeLength_7cf53 3 (some .int), Cond.methodLink RJx4a65c 66 yJ7_copyOf_1904c, Cond.static yJ7_copyOf_1904c]
def wsX4_sendAwaited_r4 : List Cond := [Cond.initialized RJ7, Cond.code yJ7_copyOf_1904c cJ7_copyOf_1904c 2 (some (.array (.object "java/lang/Object"))), Cond.methodLink RJ7 86 ⟨"java/lang/Object", "getClass", "()Ljava/lang/Class;"⟩, Cond.selects "[Ljava/lang/Object;" ⟨"java/lang/Object", "getClass", "()Ljava/lang/Class;"⟩ ⟨"java/lang/Object", "getClass", "()Ljava/lang/Class;"⟩, Cond.instanceMethod ⟨"java/lang/Object", "getClass", "()Ljava/lang/Class;"⟩, Cond.native ⟨"java/lang/Object", "getClass", "()Ljava/lang/Class;"⟩, Cond.methodLink RJ7 300 yJ7_copyOf_6403c, Cond.static yJ7_copyOf_6403c, Cond.code yJ7_copyOf_6403c cJ7_copyOf_6403c 4 (some (.array (.object "java/lang/Object"))), Cond.classLink RJ7 110 "[Ljava/lang/Object;", Cond.classLink RJ7 2 "java/lang/Object", Cond.methodLink RJ7 304 Lib.Math.min.name, Cond.static Lib.Math.min.name, Cond.code Lib.Math.min.name Lib.Math.min.code 2 (some .int), Cond.methodLink RJ7 150 arraycopyName, Cond.native arraycopyName, Cond.static arraycopyName, Cond.initialized "java/lang/System"]
def wsX4_sendAwaited : List Cond := .code yX4_sendAwaited cX4_sendAwaited 4 none :: ((wsX4_sendAwaited_r1 ++ (wsX4_sendAwaited_r2 ++ (wsX4_sendAwaited_r3 ++ wsX4_sendAwaited_r4))) ++ wsX30 ++ wsX10 ++ wsX40 ++ wsX00 ++ wsJx4a65c0)
def wsX4_beginWrite_r1 : List Cond := [Cond.classLink RX4 91 "java/lang/IllegalStateException", Cond.initialized "java/lang/IllegalStateException", Cond.classLink RX4 111 "java/lang/UnsupportedOperationException", Cond.initialized "java/lang/UnsupportedOperationException", Cond.classLink RX4 86 RX1, Cond.instantiable RX1 5, Cond.initialized RX1, Cond.instanceMethod yX3_isFree, Cond.initialized RX3, Cond.selects RX3 yX3_isFree yX3_isFree, Cond.code yX3_isFree cX3_isFree 1 (some .boolean), Cond.fieldLink RX3 9 "NoticeStations$Station" "up" "Z", Cond.fieldLink RX3 26 "NoticeStations$Station" "lock" "I", Cond.methodLink RX3 39 yX3_isInDoubt, Cond.instanceMethod yX3_isInDoubt, Cond.selects RX3 yX3_isInDoubt yX3_isInDoubt, Cond.code yX3_isInDoubt cX3_isInDoubt 1 (some .boolean), Cond.fieldLink RX3 22 "NoticeStations$Station" "preparedStanding" "LNoticeStations$Standing;", Cond.instanceMethod yX2_length, Cond.initialized RX2, Cond.selects RX2 yX2_length yX2_length, Cond.code yX2_length cX2_length 1 (some .int), Cond.fieldLink RX2 7 "NoticeStations$Standing" "entries" "[I", Cond.methodLink RX4 119 yX4_requireRoomFor]
def wsX4_beginWrite_r2 : List Cond := [Cond.instanceMethod yX4_requireRoomFor, Cond.selects RX4 yX4_requireRoomFor yX4_requireRoomFor, Cond.initialized RX4, Cond.code yX4_requireRoomFor cX4_requireRoomFor 2 none, Cond.fieldLink RX4 22 "NoticeStations" "row" "Ljava/util/ArrayList;", Cond.methodLink RX4 175 yJx4a65c_size_8abf5, Cond.instanceMethod yJx4a65c_size_8abf5, Cond.selects RJx4a65c yJx4a65c_size_8abf5 yJx4a65c_size_8abf5, Cond.initialized RJx4a65c, Cond.code yJx4a65c_size_8abf5 cJx4a65c_size_8abf5 1 (some .int), Cond.fieldLink RJx4a65c 48 "java/util/ArrayList" "size" "I", Cond.instanceMethod yX1_init, Cond.code yX1_init cX1_init 3 none, Cond.methodLink RX1 3 objectInit, Cond.instanceMethod objectInit, Cond.code objectInit ⟨#[0xb1]⟩ 1 none, Cond.classLink RX1 9 RX2, Cond.fieldLink RX1 11 "NoticeStations$OpenWrite" "granted" "[LNoticeStations$Standing;", Cond.arrayClass .boolean, Cond.fieldLink RX1 17 "NoticeStations$OpenWrite" "prepared" "[Z", Cond.fieldLink RX1 21 "NoticeStations$OpenWrite" "next" "LNoticeStations$Standing;", Cond.fieldLink RX1 25 "NoticeStations$OpenWrite" "number" "I", Cond.fieldLink RX1 29 "NoticeStations$OpenWrite" "entry" "I", Cond.methodLink RX4 131 yX4_sendAwaited]
def wsX4_beginWrite_r3 : List Cond := [Cond.instanceMethod yX4_sendAwaited, Cond.selects RX4 yX4_sendAwaited yX4_sendAwaited, Cond.code yX4_sendAwaited cX4_sendAwaited 4 none, Cond.instanceMethod yX1_awaits, Cond.selects RX1 yX1_awaits yX1_awaits, Cond.code yX1_awaits cX1_awaits 2 (some .boolean), Cond.methodLink RX1 32 yX1_isCollecting, Cond.instanceMethod yX1_isCollecting, Cond.selects RX1 yX1_isCollecting yX1_isCollecting, Cond.code yX1_isCollecting cX1_isCollecting 1 (some .boolean), Cond.methodLink RX1 36 yX1_isOfGroup, Cond.instanceMethod yX1_isOfGroup, Cond.selects RX1 yX1_isOfGroup yX1_isOfGroup, Cond.code yX1_isOfGroup cX1_isOfGroup 2 (some .boolean), Cond.methodLink RX4 148 yX4_send, Cond.instanceMethod yX4_send, Cond.selects RX4 yX4_send yX4_send, Cond.code yX4_send cX4_send 6 none, Cond.classLink RX4 183 RX0, Cond.instantiable RX0 5, Cond.initialized RX0, Cond.instanceMethod yX0_init, Cond.code yX0_init cX0_init 6 none, Cond.methodLink RX0 1 objectInit]
def wsX4_beginWrite_r4 : List Cond := [Cond.fieldLink RX0 7 "NoticeStations$Letter" "kind" "I", Cond.fieldLink RX0 13 "NoticeStations$Letter" "from" "I", Cond.fieldLink RX0 16 "NoticeStations$Letter" "to" "I", Cond.fieldLink RX0 19 "NoticeStations$Letter" "number" "I", Cond.fieldLink RX0 22 "NoticeStations$Letter" "standing" "LNoticeStations$Standing;", Cond.methodLink RX4 213 yJx4a65c_add_9ea2d, Cond.instanceMethod yJx4a65c_add_9ea2d, Cond.selects RJx4a65c yJx4a65c_add_9ea2d yJx4a65c_add_9ea2d, Cond.code yJx4a65c_add_9ea2d cJx4a65c_add_9ea2d 2 (some .boolean), Cond.fieldLink RJx4a65c 63 "java/util/ArrayList" "modCount" "I", Cond.sameField "java/util/ArrayList" "java/util/AbstractList" "modCount" "I", Cond.fieldLink RJx4a65c 9 "java/util/ArrayList" "elementData" "[Ljava/lang/Object;", Cond.methodLink RJx4a65c 131 yJx4a65c_add_72be8, Cond.instanceMethod yJx4a65c_add_72be8, Cond.selects RJx4a65c yJx4a65c_add_72be8 yJx4a65c_add_72be8, Cond.code yJx4a65c_add_72be8 cJx4a65c_add_72be8 4 none, Cond.methodLink RJx4a65c 129 yJx4a65c_grow_d5877, Cond.instanceMethod yJx4a65c_grow_d5877, Cond.selects RJx4a65c yJx4a65c_grow_d5877 yJx4a65c_grow_d5877, Cond.code yJx4a65c_grow_d5877 cJx4a65c_grow_d5877 1 (some (.array (.object "java/lang/Object"))), Cond.methodLink RJx4a65c 69 yJx4a65c_grow_92f84, Cond.instanceMethod yJx4a65c_grow_92f84, Cond.selects RJx4a65c yJx4a65c_grow_92f84 yJx4a65c_grow_92f84, Cond.code yJx4a65c_grow_92f84 cJx4a65c_grow_92f84 4 (some (.array (.object "java/lang/Object")))]
def wsX4_beginWrite_r5 : List Cond := [Cond.fieldLink RJx4a65c 39 "java/util/ArrayList" "DEFAULTCAPACITY_EMPTY_ELEMENTDATA" "[Ljava/lang/Object;", Cond.methodLink RJx4a65c 79 Lib.Math.max.name, Cond.static Lib.Math.max.name, Cond.initialized "java/lang/Math", Cond.code Lib.Math.max.name Lib.Math.max.code 2 (some .int), Cond.classLink RJx4a65c 7 "java/lang/Object", Cond.methodLink RJx4a65c 73 yJ8_newLength_cabcc, Cond.static yJ8_newLength_cabcc, Cond.initialized RJ8, Cond.code yJ8_newLength_cabcc cJ8_newLength_cabcc 4 (some .int), Cond.methodLink RJ8 194 Lib.Math.max.name, Cond.constant RJ8 200 (2147483639), Cond.methodLink RJ8 201 yJ8_hugeLength_7cf53, Cond.static yJ8_hugeLength_7cf53, Cond.code yJ8_hugeLength_7cf53 cJ8_hugeLength_7cf53 3 (some .int), Cond.methodLink RJx4a65c 66 yJ7_copyOf_1904c, Cond.static yJ7_copyOf_1904c, Cond.initialized RJ7, Cond.code yJ7_copyOf_1904c cJ7_copyOf_1904c 2 (some (.array (.object "java/lang/Object"))), Cond.methodLink RJ7 86 ⟨"java/lang/Object", "getClass", "()Ljava/lang/Class;"⟩, Cond.selects "[Ljava/lang/Object;" ⟨"java/lang/Object", "getClass", "()Ljava/lang/Class;"⟩ ⟨"java/lang/Object", "getClass", "()Ljava/lang/Class;"⟩, Cond.instanceMethod ⟨"java/lang/Object", "getClass", "()Ljava/lang/Class;"⟩, Cond.native ⟨"java/lang/Object", "getClass", "()Ljava/lang/Class;"⟩, Cond.methodLink RJ7 300 yJ7_copyOf_6403c]
def wsX4_beginWrite_r6 : List Cond := [Cond.static yJ7_copyOf_6403c, Cond.code yJ7_copyOf_6403c cJ7_copyOf_6403c 4 (some (.array (.object "java/lang/Object"))), Cond.classLink RJ7 110 "[Ljava/lang/Object;", Cond.classLink RJ7 2 "java/lang/Object", Cond.methodLink RJ7 304 Lib.Math.min.name, Cond.static Lib.Math.min.name, Cond.code Lib.Math.min.name Lib.Math.min.code 2 (some .int), Cond.methodLink RJ7 150 arraycopyName, Cond.native arraycopyName, Cond.static arraycopyName, Cond.initialized "java/lang/System"]
def wsX4_beginWrite : List Cond := .code yX4_beginWrite cX4_beginWrite 4 (some .int) :: ((wsX4_beginWrite_r1 ++ (wsX4_beginWrite_r2 ++ (wsX4_beginWrite_r3 ++ (wsX4_beginWrite_r4 ++ (wsX4_beginWrite_r5 ++ wsX4_beginWrite_r6))))) ++ wsX30 ++ wsX10 ++ wsX20 ++ wsX40 ++ wsJx4a65c0 ++ wsX00 ++ (vx_atS RX4 95 "java/lang/IllegalStateException" ["java/lang/RuntimeException", "java/lang/Exception"]).filter goodWord ++ (vx_atS RX4 115 "java/lang/UnsupportedOperationException" ["java/lang/RuntimeException", "java/lang/Exception"]).filter goodWord)
def wsX4_write_r1 : List Cond := [Cond.classLink RX4 50 "java/lang/IllegalArgumentException", Cond.initialized "java/lang/IllegalArgumentException", Cond.methodLink RX4 42 yX4_stationAt, Cond.instanceMethod yX4_stationAt, Cond.selects RX4 yX4_stationAt yX4_stationAt, Cond.initialized RX4, Cond.code yX4_stationAt cX4_stationAt 2 (some (.object "NoticeStations$Station")), Cond.classLink RX4 247 "java/lang/IndexOutOfBoundsException", Cond.initialized "java/lang/IndexOutOfBoundsException", Cond.fieldLink RX4 11 "NoticeStations" "stations" "[LNoticeStations$Station;", Cond.methodLink RX4 46 yX4_isBelow, Cond.static yX4_isBelow, Cond.code yX4_isBelow cX4_isBelow 2 (some .boolean), Cond.methodLink RX4 57 yX4_beginWrite, Cond.instanceMethod yX4_beginWrite, Cond.selects RX4 yX4_beginWrite yX4_beginWrite, Cond.code yX4_beginWrite cX4_beginWrite 4 (some .int), Cond.classLink RX4 91 "java/lang/IllegalStateException", Cond.initialized "java/lang/IllegalStateException", Cond.classLink RX4 111 "java/lang/UnsupportedOperationException", Cond.initialized "java/lang/UnsupportedOperationException", Cond.classLink RX4 86 RX1, Cond.instantiable RX1 5, Cond.initialized RX1]
def wsX4_write_r2 : List Cond := [Cond.instanceMethod yX3_isFree, Cond.initialized RX3, Cond.selects RX3 yX3_isFree yX3_isFree, Cond.code yX3_isFree cX3_isFree 1 (some .boolean), Cond.fieldLink RX3 9 "NoticeStations$Station" "up" "Z", Cond.fieldLink RX3 26 "NoticeStations$Station" "lock" "I", Cond.methodLink RX3 39 yX3_isInDoubt, Cond.instanceMethod yX3_isInDoubt, Cond.selects RX3 yX3_isInDoubt yX3_isInDoubt, Cond.code yX3_isInDoubt cX3_isInDoubt 1 (some .boolean), Cond.fieldLink RX3 22 "NoticeStations$Station" "preparedStanding" "LNoticeStations$Standing;", Cond.instanceMethod yX2_length, Cond.initialized RX2, Cond.selects RX2 yX2_length yX2_length, Cond.code yX2_length cX2_length 1 (some .int), Cond.fieldLink RX2 7 "NoticeStations$Standing" "entries" "[I", Cond.methodLink RX4 119 yX4_requireRoomFor, Cond.instanceMethod yX4_requireRoomFor, Cond.selects RX4 yX4_requireRoomFor yX4_requireRoomFor, Cond.code yX4_requireRoomFor cX4_requireRoomFor 2 none, Cond.fieldLink RX4 22 "NoticeStations" "row" "Ljava/util/ArrayList;", Cond.methodLink RX4 175 yJx4a65c_size_8abf5, Cond.instanceMethod yJx4a65c_size_8abf5, Cond.selects RJx4a65c yJx4a65c_size_8abf5 yJx4a65c_size_8abf5]
def wsX4_write_r3 : List Cond := [Cond.initialized RJx4a65c, Cond.code yJx4a65c_size_8abf5 cJx4a65c_size_8abf5 1 (some .int), Cond.fieldLink RJx4a65c 48 "java/util/ArrayList" "size" "I", Cond.instanceMethod yX1_init, Cond.code yX1_init cX1_init 3 none, Cond.methodLink RX1 3 objectInit, Cond.instanceMethod objectInit, Cond.code objectInit ⟨#[0xb1]⟩ 1 none, Cond.classLink RX1 9 RX2, Cond.fieldLink RX1 11 "NoticeStations$OpenWrite" "granted" "[LNoticeStations$Standing;", Cond.arrayClass .boolean, Cond.fieldLink RX1 17 "NoticeStations$OpenWrite" "prepared" "[Z", Cond.fieldLink RX1 21 "NoticeStations$OpenWrite" "next" "LNoticeStations$Standing;", Cond.fieldLink RX1 25 "NoticeStations$OpenWrite" "number" "I", Cond.fieldLink RX1 29 "NoticeStations$OpenWrite" "entry" "I", Cond.methodLink RX4 131 yX4_sendAwaited, Cond.instanceMethod yX4_sendAwaited, Cond.selects RX4 yX4_sendAwaited yX4_sendAwaited, Cond.code yX4_sendAwaited cX4_sendAwaited 4 none, Cond.instanceMethod yX1_awaits, Cond.selects RX1 yX1_awaits yX1_awaits, Cond.code yX1_awaits cX1_awaits 2 (some .boolean), Cond.methodLink RX1 32 yX1_isCollecting, Cond.instanceMethod yX1_isCollecting]
def wsX4_write_r4 : List Cond := [Cond.selects RX1 yX1_isCollecting yX1_isCollecting, Cond.code yX1_isCollecting cX1_isCollecting 1 (some .boolean), Cond.methodLink RX1 36 yX1_isOfGroup, Cond.instanceMethod yX1_isOfGroup, Cond.selects RX1 yX1_isOfGroup yX1_isOfGroup, Cond.code yX1_isOfGroup cX1_isOfGroup 2 (some .boolean), Cond.methodLink RX4 148 yX4_send, Cond.instanceMethod yX4_send, Cond.selects RX4 yX4_send yX4_send, Cond.code yX4_send cX4_send 6 none, Cond.classLink RX4 183 RX0, Cond.instantiable RX0 5, Cond.initialized RX0, Cond.instanceMethod yX0_init, Cond.code yX0_init cX0_init 6 none, Cond.methodLink RX0 1 objectInit, Cond.fieldLink RX0 7 "NoticeStations$Letter" "kind" "I", Cond.fieldLink RX0 13 "NoticeStations$Letter" "from" "I", Cond.fieldLink RX0 16 "NoticeStations$Letter" "to" "I", Cond.fieldLink RX0 19 "NoticeStations$Letter" "number" "I", Cond.fieldLink RX0 22 "NoticeStations$Letter" "standing" "LNoticeStations$Standing;", Cond.methodLink RX4 213 yJx4a65c_add_9ea2d, Cond.instanceMethod yJx4a65c_add_9ea2d, Cond.selects RJx4a65c yJx4a65c_add_9ea2d yJx4a65c_add_9ea2d]
def wsX4_write_r5 : List Cond := [Cond.code yJx4a65c_add_9ea2d cJx4a65c_add_9ea2d 2 (some .boolean), Cond.fieldLink RJx4a65c 63 "java/util/ArrayList" "modCount" "I", Cond.sameField "java/util/ArrayList" "java/util/AbstractList" "modCount" "I", Cond.fieldLink RJx4a65c 9 "java/util/ArrayList" "elementData" "[Ljava/lang/Object;", Cond.methodLink RJx4a65c 131 yJx4a65c_add_72be8, Cond.instanceMethod yJx4a65c_add_72be8, Cond.selects RJx4a65c yJx4a65c_add_72be8 yJx4a65c_add_72be8, Cond.code yJx4a65c_add_72be8 cJx4a65c_add_72be8 4 none, Cond.methodLink RJx4a65c 129 yJx4a65c_grow_d5877, Cond.instanceMethod yJx4a65c_grow_d5877, Cond.selects RJx4a65c yJx4a65c_grow_d5877 yJx4a65c_grow_d5877, Cond.code yJx4a65c_grow_d5877 cJx4a65c_grow_d5877 1 (some (.array (.object "java/lang/Object"))), Cond.methodLink RJx4a65c 69 yJx4a65c_grow_92f84, Cond.instanceMethod yJx4a65c_grow_92f84, Cond.selects RJx4a65c yJx4a65c_grow_92f84 yJx4a65c_grow_92f84, Cond.code yJx4a65c_grow_92f84 cJx4a65c_grow_92f84 4 (some (.array (.object "java/lang/Object"))), Cond.fieldLink RJx4a65c 39 "java/util/ArrayList" "DEFAULTCAPACITY_EMPTY_ELEMENTDATA" "[Ljava/lang/Object;", Cond.methodLink RJx4a65c 79 Lib.Math.max.name, Cond.static Lib.Math.max.name, Cond.initialized "java/lang/Math", Cond.code Lib.Math.max.name Lib.Math.max.code 2 (some .int), Cond.classLink RJx4a65c 7 "java/lang/Object", Cond.methodLink RJx4a65c 73 yJ8_newLength_cabcc, Cond.static yJ8_newLength_cabcc]
def wsX4_write_r6 : List Cond := [Cond.initialized RJ8, Cond.code yJ8_newLength_cabcc cJ8_newLength_cabcc 4 (some .int), Cond.methodLink RJ8 194 Lib.Math.max.name, Cond.constant RJ8 200 (2147483639), Cond.methodLink RJ8 201 yJ8_hugeLength_7cf53, Cond.static yJ8_hugeLength_7cf53, Cond.code yJ8_hugeLength_7cf53 cJ8_hugeLength_7cf53 3 (some .int), Cond.methodLink RJx4a65c 66 yJ7_copyOf_1904c, Cond.static yJ7_copyOf_1904c, Cond.initialized RJ7, Cond.code yJ7_copyOf_1904c cJ7_copyOf_1904c 2 (some (.array (.object "java/lang/Object"))), Cond.methodLink RJ7 86 ⟨"java/lang/Object", "getClass", "()Ljava/lang/Class;"⟩, Cond.selects "[Ljava/lang/Object;" ⟨"java/lang/Object", "getClass", "()Ljava/lang/Class;"⟩ ⟨"java/lang/Object", "getClass", "()Ljava/lang/Class;"⟩, Cond.instanceMethod ⟨"java/lang/Object", "getClass", "()Ljava/lang/Class;"⟩, Cond.native ⟨"java/lang/Object", "getClass", "()Ljava/lang/Class;"⟩, Cond.methodLink RJ7 300 yJ7_copyOf_6403c, Cond.static yJ7_copyOf_6403c, Cond.code yJ7_copyOf_6403c cJ7_copyOf_6403c 4 (some (.array (.object "java/lang/Object"))), Cond.classLink RJ7 110 "[Ljava/lang/Object;", Cond.classLink RJ7 2 "java/lang/Object", Cond.methodLink RJ7 304 Lib.Math.min.name, Cond.static Lib.Math.min.name, Cond.code Lib.Math.min.name Lib.Math.min.code 2 (some .int), Cond.methodLink RJ7 150 arraycopyName]
def wsX4_write_r7 : List Cond := [Cond.native arraycopyName, Cond.static arraycopyName, Cond.initialized "java/lang/System"]
def wsX4_write : List Cond := .code yX4_write cX4_write 6 (some .int) :: ((wsX4_write_r1 ++ (wsX4_write_r2 ++ (wsX4_write_r3 ++ (wsX4_write_r4 ++ (wsX4_write_r5 ++ (wsX4_write_r6 ++ wsX4_write_r7)))))) ++ wsX40 ++ wsX30 ++ wsX10 ++ wsX20 ++ wsJx4a65c0 ++ wsX00 ++ (vx_atS RX4 54 "java/lang/IllegalArgumentException" ["java/lang/RuntimeException", "java/lang/Exception"]).filter goodWord ++ (vx_atS RX4 251 "java/lang/IndexOutOfBoundsException" ["java/lang/RuntimeException", "java/lang/Exception"]).filter goodWord ++ (vx_atS RX4 95 "java/lang/IllegalStateException" ["java/lang/RuntimeException", "java/lang/Exception"]).filter goodWord ++ (vx_atS RX4 115 "java/lang/UnsupportedOperationException" ["java/lang/RuntimeException", "java/lang/Exception"]).filter goodWord)
def wsX4_withdraw_r1 : List Cond := [Cond.classLink RX4 72 "java/util/NoSuchElementException", Cond.initialized "java/util/NoSuchElementException", Cond.methodLink RX4 42 yX4_stationAt, Cond.instanceMethod yX4_stationAt, Cond.selects RX4 yX4_stationAt yX4_stationAt, Cond.initialized RX4, Cond.code yX4_stationAt cX4_stationAt 2 (some (.object "NoticeStations$Station")), Cond.classLink RX4 247 "java/lang/IndexOutOfBoundsException", Cond.initialized "java/lang/IndexOutOfBoundsException", Cond.fieldLink RX4 11 "NoticeStations" "stations" "[LNoticeStations$Station;", Cond.methodLink RX4 46 yX4_isBelow, Cond.static yX4_isBelow, Cond.code yX4_isBelow cX4_isBelow 2 (some .boolean), Cond.instanceMethod yX2_hasNoticeAt, Cond.initialized RX2, Cond.selects RX2 yX2_hasNoticeAt yX2_hasNoticeAt, Cond.code yX2_hasNoticeAt cX2_hasNoticeAt 2 (some .boolean), Cond.fieldLink RX2 7 "NoticeStations$Standing" "entries" "[I", Cond.instanceMethod yX2_isWithdrawn, Cond.selects RX2 yX2_isWithdrawn yX2_isWithdrawn, Cond.code yX2_isWithdrawn cX2_isWithdrawn 4 (some .boolean), Cond.static yX4_withdrawalOf, Cond.code yX4_withdrawalOf cX4_withdrawalOf 1 (some .int), Cond.methodLink RX4 77 yX4_withdrawalOf]
def wsX4_withdraw_r2 : List Cond := [Cond.methodLink RX4 57 yX4_beginWrite, Cond.instanceMethod yX4_beginWrite, Cond.selects RX4 yX4_beginWrite yX4_beginWrite, Cond.code yX4_beginWrite cX4_beginWrite 4 (some .int), Cond.classLink RX4 91 "java/lang/IllegalStateException", Cond.initialized "java/lang/IllegalStateException", Cond.classLink RX4 111 "java/lang/UnsupportedOperationException", Cond.initialized "java/lang/UnsupportedOperationException", Cond.classLink RX4 86 RX1, Cond.instantiable RX1 5, Cond.initialized RX1, Cond.instanceMethod yX3_isFree, Cond.initialized RX3, Cond.selects RX3 yX3_isFree yX3_isFree, Cond.code yX3_isFree cX3_isFree 1 (some .boolean), Cond.fieldLink RX3 9 "NoticeStations$Station" "up" "Z", Cond.fieldLink RX3 26 "NoticeStations$Station" "lock" "I", Cond.methodLink RX3 39 yX3_isInDoubt, Cond.instanceMethod yX3_isInDoubt, Cond.selects RX3 yX3_isInDoubt yX3_isInDoubt, Cond.code yX3_isInDoubt cX3_isInDoubt 1 (some .boolean), Cond.fieldLink RX3 22 "NoticeStations$Station" "preparedStanding" "LNoticeStations$Standing;", Cond.instanceMethod yX2_length, Cond.selects RX2 yX2_length yX2_length]
def wsX4_withdraw_r3 : List Cond := [Cond.code yX2_length cX2_length 1 (some .int), Cond.methodLink RX4 119 yX4_requireRoomFor, Cond.instanceMethod yX4_requireRoomFor, Cond.selects RX4 yX4_requireRoomFor yX4_requireRoomFor, Cond.code yX4_requireRoomFor cX4_requireRoomFor 2 none, Cond.fieldLink RX4 22 "NoticeStations" "row" "Ljava/util/ArrayList;", Cond.methodLink RX4 175 yJx4a65c_size_8abf5, Cond.instanceMethod yJx4a65c_size_8abf5, Cond.selects RJx4a65c yJx4a65c_size_8abf5 yJx4a65c_size_8abf5, Cond.initialized RJx4a65c, Cond.code yJx4a65c_size_8abf5 cJx4a65c_size_8abf5 1 (some .int), Cond.fieldLink RJx4a65c 48 "java/util/ArrayList" "size" "I", Cond.instanceMethod yX1_init, Cond.code yX1_init cX1_init 3 none, Cond.methodLink RX1 3 objectInit, Cond.instanceMethod objectInit, Cond.code objectInit ⟨#[0xb1]⟩ 1 none, Cond.classLink RX1 9 RX2, Cond.fieldLink RX1 11 "NoticeStations$OpenWrite" "granted" "[LNoticeStations$Standing;", Cond.arrayClass .boolean, Cond.fieldLink RX1 17 "NoticeStations$OpenWrite" "prepared" "[Z", Cond.fieldLink RX1 21 "NoticeStations$OpenWrite" "next" "LNoticeStations$Standing;", Cond.fieldLink RX1 25 "NoticeStations$OpenWrite" "number" "I", Cond.fieldLink RX1 29 "NoticeStations$OpenWrite" "entry" "I"]
def wsX4_withdraw_r4 : List Cond := [Cond.methodLink RX4 131 yX4_sendAwaited, Cond.instanceMethod yX4_sendAwaited, Cond.selects RX4 yX4_sendAwaited yX4_sendAwaited, Cond.code yX4_sendAwaited cX4_sendAwaited 4 none, Cond.instanceMethod yX1_awaits, Cond.selects RX1 yX1_awaits yX1_awaits, Cond.code yX1_awaits cX1_awaits 2 (some .boolean), Cond.methodLink RX1 32 yX1_isCollecting, Cond.instanceMethod yX1_isCollecting, Cond.selects RX1 yX1_isCollecting yX1_isCollecting, Cond.code yX1_isCollecting cX1_isCollecting 1 (some .boolean), Cond.methodLink RX1 36 yX1_isOfGroup, Cond.instanceMethod yX1_isOfGroup, Cond.selects RX1 yX1_isOfGroup yX1_isOfGroup, Cond.code yX1_isOfGroup cX1_isOfGroup 2 (some .boolean), Cond.methodLink RX4 148 yX4_send, Cond.instanceMethod yX4_send, Cond.selects RX4 yX4_send yX4_send, Cond.code yX4_send cX4_send 6 none, Cond.classLink RX4 183 RX0, Cond.instantiable RX0 5, Cond.initialized RX0, Cond.instanceMethod yX0_init, Cond.code yX0_init cX0_init 6 none]
def wsX4_withdraw_r5 : List Cond := [Cond.methodLink RX0 1 objectInit, Cond.fieldLink RX0 7 "NoticeStations$Letter" "kind" "I", Cond.fieldLink RX0 13 "NoticeStations$Letter" "from" "I", Cond.fieldLink RX0 16 "NoticeStations$Letter" "to" "I", Cond.fieldLink RX0 19 "NoticeStations$Letter" "number" "I", Cond.fieldLink RX0 22 "NoticeStations$Letter" "standing" "LNoticeStations$Standing;", Cond.methodLink RX4 213 yJx4a65c_add_9ea2d, Cond.instanceMethod yJx4a65c_add_9ea2d, Cond.selects RJx4a65c yJx4a65c_add_9ea2d yJx4a65c_add_9ea2d, Cond.code yJx4a65c_add_9ea2d cJx4a65c_add_9ea2d 2 (some .boolean), Cond.fieldLink RJx4a65c 63 "java/util/ArrayList" "modCount" "I", Cond.sameField "java/util/ArrayList" "java/util/AbstractList" "modCount" "I", Cond.fieldLink RJx4a65c 9 "java/util/ArrayList" "elementData" "[Ljava/lang/Object;", Cond.methodLink RJx4a65c 131 yJx4a65c_add_72be8, Cond.instanceMethod yJx4a65c_add_72be8, Cond.selects RJx4a65c yJx4a65c_add_72be8 yJx4a65c_add_72be8, Cond.code yJx4a65c_add_72be8 cJx4a65c_add_72be8 4 none, Cond.methodLink RJx4a65c 129 yJx4a65c_grow_d5877, Cond.instanceMethod yJx4a65c_grow_d5877, Cond.selects RJx4a65c yJx4a65c_grow_d5877 yJx4a65c_grow_d5877, Cond.code yJx4a65c_grow_d5877 cJx4a65c_grow_d5877 1 (some (.array (.object "java/lang/Object"))), Cond.methodLink RJx4a65c 69 yJx4a65c_grow_92f84, Cond.instanceMethod yJx4a65c_grow_92f84, Cond.selects RJx4a65c yJx4a65c_grow_92f84 yJx4a65c_grow_92f84]
def wsX4_withdraw_r6 : List Cond := [Cond.code yJx4a65c_grow_92f84 cJx4a65c_grow_92f84 4 (some (.array (.object "java/lang/Object"))), Cond.fieldLink RJx4a65c 39 "java/util/ArrayList" "DEFAULTCAPACITY_EMPTY_ELEMENTDATA" "[Ljava/lang/Object;", Cond.methodLink RJx4a65c 79 Lib.Math.max.name, Cond.static Lib.Math.max.name, Cond.initialized "java/lang/Math", Cond.code Lib.Math.max.name Lib.Math.max.code 2 (some .int), Cond.classLink RJx4a65c 7 "java/lang/Object", Cond.methodLink RJx4a65c 73 yJ8_newLength_cabcc, Cond.static yJ8_newLength_cabcc, Cond.initialized RJ8, Cond.code yJ8_newLength_cabcc cJ8_newLength_cabcc 4 (some .int), Cond.methodLink RJ8 194 Lib.Math.max.name, Cond.constant RJ8 200 (2147483639), Cond.methodLink RJ8 201 yJ8_hugeLength_7cf53, Cond.static yJ8_hugeLength_7cf53, Cond.code yJ8_hugeLength_7cf53 cJ8_hugeLength_7cf53 3 (some .int), Cond.methodLink RJx4a65c 66 yJ7_copyOf_1904c, Cond.static yJ7_copyOf_1904c, Cond.initialized RJ7, Cond.code yJ7_copyOf_1904c cJ7_copyOf_1904c 2 (some (.array (.object "java/lang/Object"))), Cond.methodLink RJ7 86 ⟨"java/lang/Object", "getClass", "()Ljava/lang/Class;"⟩, Cond.selects "[Ljava/lang/Object;" ⟨"java/lang/Object", "getClass", "()Ljava/lang/Class;"⟩ ⟨"java/lang/Object", "getClass", "()Ljava/lang/Class;"⟩, Cond.instanceMethod ⟨"java/lang/Object", "getClass", "()Ljava/lang/Class;"⟩, Cond.native ⟨"java/lang/Object", "getClass", "()Ljava/lang/Class;"⟩]
def wsX4_withdraw_r7 : List Cond := [Cond.methodLink RJ7 300 yJ7_copyOf_6403c, Cond.static yJ7_copyOf_6403c, Cond.code yJ7_copyOf_6403c cJ7_copyOf_6403c 4 (some (.array (.object "java/lang/Object"))), Cond.classLink RJ7 110 "[Ljava/lang/Object;", Cond.classLink RJ7 2 "java/lang/Object", Cond.methodLink RJ7 304 Lib.Math.min.name, Cond.static Lib.Math.min.name, Cond.code Lib.Math.min.name Lib.Math.min.code 2 (some .int), Cond.methodLink RJ7 150 arraycopyName, Cond.native arraycopyName, Cond.static arraycopyName, Cond.initialized "java/lang/System"]
def wsX4_withdraw : List Cond := .code yX4_withdraw cX4_withdraw 4 (some .int) :: ((wsX4_withdraw_r1 ++ (wsX4_withdraw_r2 ++ (wsX4_withdraw_r3 ++ (wsX4_withdraw_r4 ++ (wsX4_withdraw_r5 ++ (wsX4_withdraw_r6 ++ wsX4_withdraw_r7)))))) ++ wsX30 ++ wsX40 ++ wsX20 ++ wsX10 ++ wsJx4a65c0 ++ wsX00 ++ (vx_atS RX4 76 "java/util/NoSuchElementException" ["java/lang/RuntimeException", "java/lang/Exception"]).filter goodWord ++ (vx_atS RX4 251 "java/lang/IndexOutOfBoundsException" ["java/lang/RuntimeException", "java/lang/Exception"]).filter goodWord ++ (vx_atS RX4 95 "java/lang/IllegalStateException" ["java/lang/RuntimeException", "java/lang/Exception"]).filter goodWord ++ (vx_atS RX4 115 "java/lang/UnsupportedOperationException" ["java/lang/RuntimeException", "java/lang/Exception"]).filter goodWord)
def wsX4_heldByHolders : List Cond := .code yX4_heldByHolders cX4_heldByHolders 3 (some (.object "NoticeStations$Standing")) :: ([.instanceMethod yX2_length, .initialized RX2, .selects RX2 yX2_length yX2_length, .code yX2_length cX2_length 1 (some .int), .fieldLink RX2 7 "NoticeStations$Standing" "entries" "[I"] ++ wsX20)
def wsX4_mayGoOn : List Cond := .code yX4_mayGoOn cX4_mayGoOn 5 (some .boolean) :: ([.instanceMethod yX2_length, .initialized RX2, .selects RX2 yX2_length yX2_length, .code yX2_length cX2_length 1 (some .int), .fieldLink RX2 7 "NoticeStations$Standing" "entries" "[I"] ++ wsX20)
def wsX4_commitIfAllPrepared_r1 : List Cond := [Cond.instanceMethod yX1_isCollecting, Cond.initialized RX1, Cond.selects RX1 yX1_isCollecting yX1_isCollecting, Cond.code yX1_isCollecting cX1_isCollecting 1 (some .boolean), Cond.fieldLink RX1 21 "NoticeStations$OpenWrite" "next" "LNoticeStations$Standing;", Cond.instanceMethod yX1_awaited, Cond.selects RX1 yX1_awaited yX1_awaited, Cond.code yX1_awaited cX1_awaited 3 (some .int), Cond.methodLink RX1 40 yX1_awaits, Cond.instanceMethod yX1_awaits, Cond.selects RX1 yX1_awaits yX1_awaits, Cond.code yX1_awaits cX1_awaits 2 (some .boolean), Cond.fieldLink RX1 11 "NoticeStations$OpenWrite" "granted" "[LNoticeStations$Standing;", Cond.fieldLink RX1 17 "NoticeStations$OpenWrite" "prepared" "[Z", Cond.methodLink RX1 32 yX1_isCollecting, Cond.methodLink RX1 36 yX1_isOfGroup, Cond.instanceMethod yX1_isOfGroup, Cond.selects RX1 yX1_isOfGroup yX1_isOfGroup, Cond.code yX1_isOfGroup cX1_isOfGroup 2 (some .boolean), Cond.instanceMethod yX3_forgetWrite, Cond.initialized RX3, Cond.selects RX3 yX3_forgetWrite yX3_forgetWrite, Cond.code yX3_forgetWrite cX3_forgetWrite 1 none, Cond.fieldLink RX3 26 "NoticeStations$Station" "lock" "I"]
def wsX4_commitIfAllPrepared_r2 : List Cond := [Cond.fieldLink RX3 29 "NoticeStations$Station" "open" "LNoticeStations$OpenWrite;", Cond.methodLink RX4 148 yX4_send, Cond.instanceMethod yX4_send, Cond.selects RX4 yX4_send yX4_send, Cond.initialized RX4, Cond.code yX4_send cX4_send 6 none, Cond.fieldLink RX4 22 "NoticeStations" "row" "Ljava/util/ArrayList;", Cond.classLink RX4 183 RX0, Cond.instantiable RX0 5, Cond.initialized RX0, Cond.instanceMethod yX0_init, Cond.code yX0_init cX0_init 6 none, Cond.methodLink RX0 1 objectInit, Cond.instanceMethod objectInit, Cond.code objectInit ⟨#[0xb1]⟩ 1 none, Cond.fieldLink RX0 7 "NoticeStations$Letter" "kind" "I", Cond.fieldLink RX0 13 "NoticeStations$Letter" "from" "I", Cond.fieldLink RX0 16 "NoticeStations$Letter" "to" "I", Cond.fieldLink RX0 19 "NoticeStations$Letter" "number" "I", Cond.fieldLink RX0 22 "NoticeStations$Letter" "standing" "LNoticeStations$Standing;", Cond.methodLink RX4 213 yJx4a65c_add_9ea2d, Cond.instanceMethod yJx4a65c_add_9ea2d, Cond.selects RJx4a65c yJx4a65c_add_9ea2d yJx4a65c_add_9ea2d, Cond.initialized RJx4a65c]
def wsX4_commitIfAllPrepared_r3 : List Cond := [Cond.code yJx4a65c_add_9ea2d cJx4a65c_add_9ea2d 2 (some .boolean), Cond.fieldLink RJx4a65c 63 "java/util/ArrayList" "modCount" "I", Cond.sameField "java/util/ArrayList" "java/util/AbstractList" "modCount" "I", Cond.fieldLink RJx4a65c 9 "java/util/ArrayList" "elementData" "[Ljava/lang/Object;", Cond.fieldLink RJx4a65c 48 "java/util/ArrayList" "size" "I", Cond.methodLink RJx4a65c 131 yJx4a65c_add_72be8, Cond.instanceMethod yJx4a65c_add_72be8, Cond.selects RJx4a65c yJx4a65c_add_72be8 yJx4a65c_add_72be8, Cond.code yJx4a65c_add_72be8 cJx4a65c_add_72be8 4 none, Cond.methodLink RJx4a65c 129 yJx4a65c_grow_d5877, Cond.instanceMethod yJx4a65c_grow_d5877, Cond.selects RJx4a65c yJx4a65c_grow_d5877 yJx4a65c_grow_d5877, Cond.code yJx4a65c_grow_d5877 cJx4a65c_grow_d5877 1 (some (.array (.object "java/lang/Object"))), Cond.methodLink RJx4a65c 69 yJx4a65c_grow_92f84, Cond.instanceMethod yJx4a65c_grow_92f84, Cond.selects RJx4a65c yJx4a65c_grow_92f84 yJx4a65c_grow_92f84, Cond.code yJx4a65c_grow_92f84 cJx4a65c_grow_92f84 4 (some (.array (.object "java/lang/Object"))), Cond.fieldLink RJx4a65c 39 "java/util/ArrayList" "DEFAULTCAPACITY_EMPTY_ELEMENTDATA" "[Ljava/lang/Object;", Cond.methodLink RJx4a65c 79 Lib.Math.max.name, Cond.static Lib.Math.max.name, Cond.initialized "java/lang/Math", Cond.code Lib.Math.max.name Lib.Math.max.code 2 (some .int), Cond.classLink RJx4a65c 7 "java/lang/Object", Cond.methodLink RJx4a65c 73 yJ8_newLength_cabcc]
def wsX4_commitIfAllPrepared_r4 : List Cond := [Cond.static yJ8_newLength_cabcc, Cond.initialized RJ8, Cond.code yJ8_newLength_cabcc cJ8_newLength_cabcc 4 (some .int), Cond.methodLink RJ8 194 Lib.Math.max.name, Cond.constant RJ8 200 (2147483639), Cond.methodLink RJ8 201 yJ8_hugeLength_7cf53, Cond.static yJ8_hugeLength_7cf53, Cond.code yJ8_hugeLength_7cf53 cJ8_hugeLength_7cf53 3 (some .int), Cond.methodLink RJx4a65c 66 yJ7_copyOf_1904c, Cond.static yJ7_copyOf_1904c, Cond.initialized RJ7, Cond.code yJ7_copyOf_1904c cJ7_copyOf_1904c 2 (some (.array (.object "java/lang/Object"))), Cond.methodLink RJ7 86 ⟨"java/lang/Object", "getClass", "()Ljava/lang/Class;"⟩, Cond.selects "[Ljava/lang/Object;" ⟨"java/lang/Object", "getClass", "()Ljava/lang/Class;"⟩ ⟨"java/lang/Object", "getClass", "()Ljava/lang/Class;"⟩, Cond.instanceMethod ⟨"java/lang/Object", "getClass", "()Ljava/lang/Class;"⟩, Cond.native ⟨"java/lang/Object", "getClass", "()Ljava/lang/Class;"⟩, Cond.methodLink RJ7 300 yJ7_copyOf_6403c, Cond.static yJ7_copyOf_6403c, Cond.code yJ7_copyOf_6403c cJ7_copyOf_6403c 4 (some (.array (.object "java/lang/Object"))), Cond.classLink RJ7 110 "[Ljava/lang/Object;", Cond.classLink RJ7 2 "java/lang/Object", Cond.methodLink RJ7 304 Lib.Math.min.name, Cond.static Lib.Math.min.name, Cond.code Lib.Math.min.name Lib.Math.min.code 2 (some .int)]
def wsX4_commitIfAllPrepared_r5 : List Cond := [Cond.methodLink RJ7 150 arraycopyName, Cond.native arraycopyName, Cond.static arraycopyName, Cond.initialized "java/lang/System"]
def wsX4_commitIfAllPrepared : List Cond := .code yX4_commitIfAllPrepared cX4_commitIfAllPrepared 4 none :: ((wsX4_commitIfAllPrepared_r1 ++ (wsX4_commitIfAllPrepared_r2 ++ (wsX4_commitIfAllPrepared_r3 ++ (wsX4_commitIfAllPrepared_r4 ++ wsX4_commitIfAllPrepared_r5)))) ++ wsX10 ++ wsX30 ++ wsX40 ++ wsX00 ++ wsJx4a65c0)
def wsX4_decide_r1 : List Cond := [Cond.classLink RX4 91 "java/lang/IllegalStateException", Cond.initialized "java/lang/IllegalStateException", Cond.classLink RX4 111 "java/lang/UnsupportedOperationException", Cond.initialized "java/lang/UnsupportedOperationException", Cond.methodLink RX4 42 yX4_stationAt, Cond.instanceMethod yX4_stationAt, Cond.selects RX4 yX4_stationAt yX4_stationAt, Cond.initialized RX4, Cond.code yX4_stationAt cX4_stationAt 2 (some (.object "NoticeStations$Station")), Cond.classLink RX4 247 "java/lang/IndexOutOfBoundsException", Cond.initialized "java/lang/IndexOutOfBoundsException", Cond.fieldLink RX4 11 "NoticeStations" "stations" "[LNoticeStations$Station;", Cond.methodLink RX4 46 yX4_isBelow, Cond.static yX4_isBelow, Cond.code yX4_isBelow cX4_isBelow 2 (some .boolean), Cond.instanceMethod yX1_isCollecting, Cond.initialized RX1, Cond.selects RX1 yX1_isCollecting yX1_isCollecting, Cond.code yX1_isCollecting cX1_isCollecting 1 (some .boolean), Cond.fieldLink RX1 21 "NoticeStations$OpenWrite" "next" "LNoticeStations$Standing;", Cond.methodLink RX4 99 yX4_heldByHolders, Cond.static yX4_heldByHolders, Cond.code yX4_heldByHolders cX4_heldByHolders 3 (some (.object "NoticeStations$Standing")), Cond.instanceMethod yX2_length]
def wsX4_decide_r2 : List Cond := [Cond.initialized RX2, Cond.selects RX2 yX2_length yX2_length, Cond.code yX2_length cX2_length 1 (some .int), Cond.fieldLink RX2 7 "NoticeStations$Standing" "entries" "[I", Cond.methodLink RX4 103 yX4_mayGoOn, Cond.static yX4_mayGoOn, Cond.code yX4_mayGoOn cX4_mayGoOn 5 (some .boolean), Cond.instanceMethod yX1_groupSize, Cond.selects RX1 yX1_groupSize yX1_groupSize, Cond.code yX1_groupSize cX1_groupSize 3 (some .int), Cond.methodLink RX1 36 yX1_isOfGroup, Cond.instanceMethod yX1_isOfGroup, Cond.selects RX1 yX1_isOfGroup yX1_isOfGroup, Cond.code yX1_isOfGroup cX1_isOfGroup 2 (some .boolean), Cond.fieldLink RX1 11 "NoticeStations$OpenWrite" "granted" "[LNoticeStations$Standing;", Cond.methodLink RX4 119 yX4_requireRoomFor, Cond.instanceMethod yX4_requireRoomFor, Cond.selects RX4 yX4_requireRoomFor yX4_requireRoomFor, Cond.code yX4_requireRoomFor cX4_requireRoomFor 2 none, Cond.fieldLink RX4 22 "NoticeStations" "row" "Ljava/util/ArrayList;", Cond.methodLink RX4 175 yJx4a65c_size_8abf5, Cond.instanceMethod yJx4a65c_size_8abf5, Cond.selects RJx4a65c yJx4a65c_size_8abf5 yJx4a65c_size_8abf5, Cond.initialized RJx4a65c]
def wsX4_decide_r3 : List Cond := [Cond.code yJx4a65c_size_8abf5 cJx4a65c_size_8abf5 1 (some .int), Cond.fieldLink RJx4a65c 48 "java/util/ArrayList" "size" "I", Cond.instanceMethod yX1_prepareFrom, Cond.selects RX1 yX1_prepareFrom yX1_prepareFrom, Cond.code yX1_prepareFrom cX1_prepareFrom 3 none, Cond.fieldLink RX1 29 "NoticeStations$OpenWrite" "entry" "I", Cond.fieldLink RX1 25 "NoticeStations$OpenWrite" "number" "I", Cond.fieldLink RX1 17 "NoticeStations$OpenWrite" "prepared" "[Z", Cond.methodLink RX1 43 yX1_groupSize, Cond.methodLink RX1 47 yX1_leastOfGroup, Cond.instanceMethod yX1_leastOfGroup, Cond.selects RX1 yX1_leastOfGroup yX1_leastOfGroup, Cond.code yX1_leastOfGroup cX1_leastOfGroup 2 (some .int), Cond.instanceMethod yX2_followedBy, Cond.selects RX2 yX2_followedBy yX2_followedBy, Cond.code yX2_followedBy cX2_followedBy 8 (some (.object "NoticeStations$Standing")), Cond.fieldLink RX2 13 "NoticeStations$Standing" "numbers" "[I", Cond.classLink RX2 8 RX2, Cond.instantiable RX2 4, Cond.methodLink RX2 33 yX2_length, Cond.methodLink RX2 37 yJ7_copyOf_59c91, Cond.static yJ7_copyOf_59c91, Cond.initialized RJ7, Cond.code yJ7_copyOf_59c91 cJ7_copyOf_59c91 3 (some (.array .int))]
def wsX4_decide_r4 : List Cond := [Cond.methodLink RJ7 316 ⟨"[I", "clone", "()Ljava/lang/Object;"⟩, Cond.sameMethod "[I" "java/lang/Object" "clone" "()Ljava/lang/Object;", Cond.native ⟨"java/lang/Object", "clone", "()Ljava/lang/Object;"⟩, Cond.instanceMethod ⟨"java/lang/Object", "clone", "()Ljava/lang/Object;"⟩, Cond.selects "[I" ⟨"[I", "clone", "()Ljava/lang/Object;"⟩ ⟨"java/lang/Object", "clone", "()Ljava/lang/Object;"⟩, Cond.classLink RJ7 317 "[I", Cond.arrayClass .int, Cond.methodLink RJ7 304 Lib.Math.min.name, Cond.static Lib.Math.min.name, Cond.initialized "java/lang/Math", Cond.code Lib.Math.min.name Lib.Math.min.code 2 (some .int), Cond.methodLink RJ7 150 arraycopyName, Cond.native arraycopyName, Cond.static arraycopyName, Cond.initialized "java/lang/System", Cond.methodLink RX2 43 yX2_init, Cond.instanceMethod yX2_init, Cond.code yX2_init cX2_init 5 none, Cond.methodLink RX2 1 objectInit, Cond.instanceMethod objectInit, Cond.code objectInit ⟨#[0xb1]⟩ 1 none, Cond.fieldLink RX2 16 "NoticeStations$Standing" "size" "I", Cond.fieldLink RX2 20 "NoticeStations$Standing" "named" "I", Cond.methodLink RX4 131 yX4_sendAwaited]
def wsX4_decide_r5 : List Cond := [Cond.instanceMethod yX4_sendAwaited, Cond.selects RX4 yX4_sendAwaited yX4_sendAwaited, Cond.code yX4_sendAwaited cX4_sendAwaited 4 none, Cond.instanceMethod yX1_awaits, Cond.selects RX1 yX1_awaits yX1_awaits, Cond.code yX1_awaits cX1_awaits 2 (some .boolean), Cond.methodLink RX1 32 yX1_isCollecting, Cond.methodLink RX4 148 yX4_send, Cond.instanceMethod yX4_send, Cond.selects RX4 yX4_send yX4_send, Cond.code yX4_send cX4_send 6 none, Cond.classLink RX4 183 RX0, Cond.instantiable RX0 5, Cond.initialized RX0, Cond.instanceMethod yX0_init, Cond.code yX0_init cX0_init 6 none, Cond.methodLink RX0 1 objectInit, Cond.fieldLink RX0 7 "NoticeStations$Letter" "kind" "I", Cond.fieldLink RX0 13 "NoticeStations$Letter" "from" "I", Cond.fieldLink RX0 16 "NoticeStations$Letter" "to" "I", Cond.fieldLink RX0 19 "NoticeStations$Letter" "number" "I", Cond.fieldLink RX0 22 "NoticeStations$Letter" "standing" "LNoticeStations$Standing;", Cond.methodLink RX4 213 yJx4a65c_add_9ea2d, Cond.instanceMethod yJx4a65c_add_9ea2d]
def wsX4_decide_r6 : List Cond := [Cond.selects RJx4a65c yJx4a65c_add_9ea2d yJx4a65c_add_9ea2d, Cond.code yJx4a65c_add_9ea2d cJx4a65c_add_9ea2d 2 (some .boolean), Cond.fieldLink RJx4a65c 63 "java/util/ArrayList" "modCount" "I", Cond.sameField "java/util/ArrayList" "java/util/AbstractList" "modCount" "I", Cond.fieldLink RJx4a65c 9 "java/util/ArrayList" "elementData" "[Ljava/lang/Object;", Cond.methodLink RJx4a65c 131 yJx4a65c_add_72be8, Cond.instanceMethod yJx4a65c_add_72be8, Cond.selects RJx4a65c yJx4a65c_add_72be8 yJx4a65c_add_72be8, Cond.code yJx4a65c_add_72be8 cJx4a65c_add_72be8 4 none, Cond.methodLink RJx4a65c 129 yJx4a65c_grow_d5877, Cond.instanceMethod yJx4a65c_grow_d5877, Cond.selects RJx4a65c yJx4a65c_grow_d5877 yJx4a65c_grow_d5877, Cond.code yJx4a65c_grow_d5877 cJx4a65c_grow_d5877 1 (some (.array (.object "java/lang/Object"))), Cond.methodLink RJx4a65c 69 yJx4a65c_grow_92f84, Cond.instanceMethod yJx4a65c_grow_92f84, Cond.selects RJx4a65c yJx4a65c_grow_92f84 yJx4a65c_grow_92f84, Cond.code yJx4a65c_grow_92f84 cJx4a65c_grow_92f84 4 (some (.array (.object "java/lang/Object"))), Cond.fieldLink RJx4a65c 39 "java/util/ArrayList" "DEFAULTCAPACITY_EMPTY_ELEMENTDATA" "[Ljava/lang/Object;", Cond.methodLink RJx4a65c 79 Lib.Math.max.name, Cond.static Lib.Math.max.name, Cond.code Lib.Math.max.name Lib.Math.max.code 2 (some .int), Cond.classLink RJx4a65c 7 "java/lang/Object", Cond.methodLink RJx4a65c 73 yJ8_newLength_cabcc, Cond.static yJ8_newLength_cabcc]
def wsX4_decide_r7 : List Cond := [Cond.initialized RJ8, Cond.code yJ8_newLength_cabcc cJ8_newLength_cabcc 4 (some .int), Cond.methodLink RJ8 194 Lib.Math.max.name, Cond.constant RJ8 200 (2147483639), Cond.methodLink RJ8 201 yJ8_hugeLength_7cf53, Cond.static yJ8_hugeLength_7cf53, Cond.code yJ8_hugeLength_7cf53 cJ8_hugeLength_7cf53 3 (some .int), Cond.methodLink RJx4a65c 66 yJ7_copyOf_1904c, Cond.static yJ7_copyOf_1904c, Cond.code yJ7_copyOf_1904c cJ7_copyOf_1904c 2 (some (.array (.object "java/lang/Object"))), Cond.methodLink RJ7 86 ⟨"java/lang/Object", "getClass", "()Ljava/lang/Class;"⟩, Cond.selects "[Ljava/lang/Object;" ⟨"java/lang/Object", "getClass", "()Ljava/lang/Class;"⟩ ⟨"java/lang/Object", "getClass", "()Ljava/lang/Class;"⟩, Cond.instanceMethod ⟨"java/lang/Object", "getClass", "()Ljava/lang/Class;"⟩, Cond.native ⟨"java/lang/Object", "getClass", "()Ljava/lang/Class;"⟩, Cond.methodLink RJ7 300 yJ7_copyOf_6403c, Cond.static yJ7_copyOf_6403c, Cond.code yJ7_copyOf_6403c cJ7_copyOf_6403c 4 (some (.array (.object "java/lang/Object"))), Cond.classLink RJ7 110 "[Ljava/lang/Object;", Cond.classLink RJ7 2 "java/lang/Object", Cond.methodLink RX4 135 yX4_commitIfAllPrepared, Cond.instanceMethod yX4_commitIfAllPrepared, Cond.selects RX4 yX4_commitIfAllPrepared yX4_commitIfAllPrepared, Cond.code yX4_commitIfAllPrepared cX4_commitIfAllPrepared 4 none, Cond.instanceMethod yX1_awaited]
def wsX4_decide_r8 : List Cond := [Cond.selects RX1 yX1_awaited yX1_awaited, Cond.code yX1_awaited cX1_awaited 3 (some .int), Cond.methodLink RX1 40 yX1_awaits, Cond.instanceMethod yX3_forgetWrite, Cond.initialized RX3, Cond.selects RX3 yX3_forgetWrite yX3_forgetWrite, Cond.code yX3_forgetWrite cX3_forgetWrite 1 none, Cond.fieldLink RX3 26 "NoticeStations$Station" "lock" "I", Cond.fieldLink RX3 29 "NoticeStations$Station" "open" "LNoticeStations$OpenWrite;"]
def wsX4_decide : List Cond := .code yX4_decide cX4_decide 5 (some .boolean) :: ((wsX4_decide_r1 ++ (wsX4_decide_r2 ++ (wsX4_decide_r3 ++ (wsX4_decide_r4 ++ (wsX4_decide_r5 ++ (wsX4_decide_r6 ++ (wsX4_decide_r7 ++ wsX4_decide_r8))))))) ++ wsX30 ++ wsX10 ++ wsX40 ++ wsX20 ++ wsJx4a65c0 ++ wsX00 ++ (vx_atS RX4 95 "java/lang/IllegalStateException" ["java/lang/RuntimeException", "java/lang/Exception"]).filter goodWord ++ (vx_atS RX4 115 "java/lang/UnsupportedOperationException" ["java/lang/RuntimeException", "java/lang/Exception"]).filter goodWord ++ (vx_atS RX4 251 "java/lang/IndexOutOfBoundsException" ["java/lang/RuntimeException", "java/lang/Exception"]).filter goodWord)
def wsX4_openWriteOf : List Cond := .code yX4_openWriteOf cX4_openWriteOf 3 (some (.object "NoticeStations$OpenWrite")) :: ([.classLink RX4 91 "java/lang/IllegalStateException", .initialized "java/lang/IllegalStateException"] ++ wsX30 ++ (vx_atS RX4 95 "java/lang/IllegalStateException" ["java/lang/RuntimeException", "java/lang/Exception"]).filter goodWord)
def wsX4_giveUp_r1 : List Cond := [Cond.methodLink RX4 42 yX4_stationAt, Cond.instanceMethod yX4_stationAt, Cond.selects RX4 yX4_stationAt yX4_stationAt, Cond.initialized RX4, Cond.code yX4_stationAt cX4_stationAt 2 (some (.object "NoticeStations$Station")), Cond.classLink RX4 247 "java/lang/IndexOutOfBoundsException", Cond.initialized "java/lang/IndexOutOfBoundsException", Cond.fieldLink RX4 11 "NoticeStations" "stations" "[LNoticeStations$Station;", Cond.methodLink RX4 46 yX4_isBelow, Cond.static yX4_isBelow, Cond.code yX4_isBelow cX4_isBelow 2 (some .boolean), Cond.methodLink RX4 138 yX4_openWriteOf, Cond.instanceMethod yX4_openWriteOf, Cond.selects RX4 yX4_openWriteOf yX4_openWriteOf, Cond.code yX4_openWriteOf cX4_openWriteOf 3 (some (.object "NoticeStations$OpenWrite")), Cond.classLink RX4 91 "java/lang/IllegalStateException", Cond.initialized "java/lang/IllegalStateException", Cond.methodLink RX4 119 yX4_requireRoomFor, Cond.instanceMethod yX4_requireRoomFor, Cond.selects RX4 yX4_requireRoomFor yX4_requireRoomFor, Cond.code yX4_requireRoomFor cX4_requireRoomFor 2 none, Cond.classLink RX4 111 "java/lang/UnsupportedOperationException", Cond.initialized "java/lang/UnsupportedOperationException", Cond.fieldLink RX4 22 "NoticeStations" "row" "Ljava/util/ArrayList;"]
def wsX4_giveUp_r2 : List Cond := [Cond.methodLink RX4 175 yJx4a65c_size_8abf5, Cond.instanceMethod yJx4a65c_size_8abf5, Cond.selects RJx4a65c yJx4a65c_size_8abf5 yJx4a65c_size_8abf5, Cond.initialized RJx4a65c, Cond.code yJx4a65c_size_8abf5 cJx4a65c_size_8abf5 1 (some .int), Cond.fieldLink RJx4a65c 48 "java/util/ArrayList" "size" "I", Cond.instanceMethod yX3_forgetWrite, Cond.initialized RX3, Cond.selects RX3 yX3_forgetWrite yX3_forgetWrite, Cond.code yX3_forgetWrite cX3_forgetWrite 1 none, Cond.fieldLink RX3 26 "NoticeStations$Station" "lock" "I", Cond.fieldLink RX3 29 "NoticeStations$Station" "open" "LNoticeStations$OpenWrite;", Cond.methodLink RX4 148 yX4_send, Cond.instanceMethod yX4_send, Cond.selects RX4 yX4_send yX4_send, Cond.code yX4_send cX4_send 6 none, Cond.classLink RX4 183 RX0, Cond.instantiable RX0 5, Cond.initialized RX0, Cond.instanceMethod yX0_init, Cond.code yX0_init cX0_init 6 none, Cond.methodLink RX0 1 objectInit, Cond.instanceMethod objectInit, Cond.code objectInit ⟨#[0xb1]⟩ 1 none]
def wsX4_giveUp_r3 : List Cond := [Cond.fieldLink RX0 7 "NoticeStations$Letter" "kind" "I", Cond.fieldLink RX0 13 "NoticeStations$Letter" "from" "I", Cond.fieldLink RX0 16 "NoticeStations$Letter" "to" "I", Cond.fieldLink RX0 19 "NoticeStations$Letter" "number" "I", Cond.fieldLink RX0 22 "NoticeStations$Letter" "standing" "LNoticeStations$Standing;", Cond.methodLink RX4 213 yJx4a65c_add_9ea2d, Cond.instanceMethod yJx4a65c_add_9ea2d, Cond.selects RJx4a65c yJx4a65c_add_9ea2d yJx4a65c_add_9ea2d, Cond.code yJx4a65c_add_9ea2d cJx4a65c_add_9ea2d 2 (some .boolean), Cond.fieldLink RJx4a65c 63 "java/util/ArrayList" "modCount" "I", Cond.sameField "java/util/ArrayList" "java/util/AbstractList" "modCount" "I", Cond.fieldLink RJx4a65c 9 "java/util/ArrayList" "elementData" "[Ljava/lang/Object;", Cond.methodLink RJx4a65c 131 yJx4a65c_add_72be8, Cond.instanceMethod yJx4a65c_add_72be8, Cond.selects RJx4a65c yJx4a65c_add_72be8 yJx4a65c_add_72be8, Cond.code yJx4a65c_add_72be8 cJx4a65c_add_72be8 4 none, Cond.methodLink RJx4a65c 129 yJx4a65c_grow_d5877, Cond.instanceMethod yJx4a65c_grow_d5877, Cond.selects RJx4a65c yJx4a65c_grow_d5877 yJx4a65c_grow_d5877, Cond.code yJx4a65c_grow_d5877 cJx4a65c_grow_d5877 1 (some (.array (.object "java/lang/Object"))), Cond.methodLink RJx4a65c 69 yJx4a65c_grow_92f84, Cond.instanceMethod yJx4a65c_grow_92f84, Cond.selects RJx4a65c yJx4a65c_grow_92f84 yJx4a65c_grow_92f84, Cond.code yJx4a65c_grow_92f84 cJx4a65c_grow_92f84 4 (some (.array (.object "java/lang/Object")))]
def wsX4_giveUp_r4 : List Cond := [Cond.fieldLink RJx4a65c 39 "java/util/ArrayList" "DEFAULTCAPACITY_EMPTY_ELEMENTDATA" "[Ljava/lang/Object;", Cond.methodLink RJx4a65c 79 Lib.Math.max.name, Cond.static Lib.Math.max.name, Cond.initialized "java/lang/Math", Cond.code Lib.Math.max.name Lib.Math.max.code 2 (some .int), Cond.classLink RJx4a65c 7 "java/lang/Object", Cond.methodLink RJx4a65c 73 yJ8_newLength_cabcc, Cond.static yJ8_newLength_cabcc, Cond.initialized RJ8, Cond.code yJ8_newLength_cabcc cJ8_newLength_cabcc 4 (some .int), Cond.methodLink RJ8 194 Lib.Math.max.name, Cond.constant RJ8 200 (2147483639), Cond.methodLink RJ8 201 yJ8_hugeLength_7cf53, Cond.static yJ8_hugeLength_7cf53, Cond.code yJ8_hugeLength_7cf53 cJ8_hugeLength_7cf53 3 (some .int), Cond.methodLink RJx4a65c 66 yJ7_copyOf_1904c, Cond.static yJ7_copyOf_1904c, Cond.initialized RJ7, Cond.code yJ7_copyOf_1904c cJ7_copyOf_1904c 2 (some (.array (.object "java/lang/Object"))), Cond.methodLink RJ7 86 ⟨"java/lang/Object", "getClass", "()Ljava/lang/Class;"⟩, Cond.selects "[Ljava/lang/Object;" ⟨"java/lang/Object", "getClass", "()Ljava/lang/Class;"⟩ ⟨"java/lang/Object", "getClass", "()Ljava/lang/Class;"⟩, Cond.instanceMethod ⟨"java/lang/Object", "getClass", "()Ljava/lang/Class;"⟩, Cond.native ⟨"java/lang/Object", "getClass", "()Ljava/lang/Class;"⟩, Cond.methodLink RJ7 300 yJ7_copyOf_6403c]
def wsX4_giveUp_r5 : List Cond := [Cond.static yJ7_copyOf_6403c, Cond.code yJ7_copyOf_6403c cJ7_copyOf_6403c 4 (some (.array (.object "java/lang/Object"))), Cond.classLink RJ7 110 "[Ljava/lang/Object;", Cond.classLink RJ7 2 "java/lang/Object", Cond.methodLink RJ7 304 Lib.Math.min.name, Cond.static Lib.Math.min.name, Cond.code Lib.Math.min.name Lib.Math.min.code 2 (some .int), Cond.methodLink RJ7 150 arraycopyName, Cond.native arraycopyName, Cond.static arraycopyName, Cond.initialized "java/lang/System"]
def wsX4_giveUp : List Cond := .code yX4_giveUp cX4_giveUp 5 none :: ((wsX4_giveUp_r1 ++ (wsX4_giveUp_r2 ++ (wsX4_giveUp_r3 ++ (wsX4_giveUp_r4 ++ wsX4_giveUp_r5)))) ++ wsX30 ++ wsX10 ++ wsX40 ++ wsJx4a65c0 ++ wsX00 ++ (vx_atS RX4 251 "java/lang/IndexOutOfBoundsException" ["java/lang/RuntimeException", "java/lang/Exception"]).filter goodWord ++ (vx_atS RX4 95 "java/lang/IllegalStateException" ["java/lang/RuntimeException", "java/lang/Exception"]).filter goodWord ++ (vx_atS RX4 115 "java/lang/UnsupportedOperationException" ["java/lang/RuntimeException", "java/lang/Exception"]).filter goodWord)
def wsX4_resend_r1 : List Cond := [Cond.methodLink RX4 42 yX4_stationAt, Cond.instanceMethod yX4_stationAt, Cond.selects RX4 yX4_stationAt yX4_stationAt, Cond.initialized RX4, Cond.code yX4_stationAt cX4_stationAt 2 (some (.object "NoticeStations$Station")), Cond.classLink RX4 247 "java/lang/IndexOutOfBoundsException", Cond.initialized "java/lang/IndexOutOfBoundsException", Cond.fieldLink RX4 11 "NoticeStations" "stations" "[LNoticeStations$Station;", Cond.methodLink RX4 46 yX4_isBelow, Cond.static yX4_isBelow, Cond.code yX4_isBelow cX4_isBelow 2 (some .boolean), Cond.methodLink RX4 138 yX4_openWriteOf, Cond.instanceMethod yX4_openWriteOf, Cond.selects RX4 yX4_openWriteOf yX4_openWriteOf, Cond.code yX4_openWriteOf cX4_openWriteOf 3 (some (.object "NoticeStations$OpenWrite")), Cond.classLink RX4 91 "java/lang/IllegalStateException", Cond.initialized "java/lang/IllegalStateException", Cond.instanceMethod yX1_awaited, Cond.initialized RX1, Cond.selects RX1 yX1_awaited yX1_awaited, Cond.code yX1_awaited cX1_awaited 3 (some .int), Cond.methodLink RX1 40 yX1_awaits, Cond.instanceMethod yX1_awaits, Cond.selects RX1 yX1_awaits yX1_awaits]
def wsX4_resend_r2 : List Cond := [Cond.code yX1_awaits cX1_awaits 2 (some .boolean), Cond.fieldLink RX1 11 "NoticeStations$OpenWrite" "granted" "[LNoticeStations$Standing;", Cond.fieldLink RX1 17 "NoticeStations$OpenWrite" "prepared" "[Z", Cond.methodLink RX1 32 yX1_isCollecting, Cond.instanceMethod yX1_isCollecting, Cond.selects RX1 yX1_isCollecting yX1_isCollecting, Cond.code yX1_isCollecting cX1_isCollecting 1 (some .boolean), Cond.fieldLink RX1 21 "NoticeStations$OpenWrite" "next" "LNoticeStations$Standing;", Cond.methodLink RX1 36 yX1_isOfGroup, Cond.instanceMethod yX1_isOfGroup, Cond.selects RX1 yX1_isOfGroup yX1_isOfGroup, Cond.code yX1_isOfGroup cX1_isOfGroup 2 (some .boolean), Cond.methodLink RX4 119 yX4_requireRoomFor, Cond.instanceMethod yX4_requireRoomFor, Cond.selects RX4 yX4_requireRoomFor yX4_requireRoomFor, Cond.code yX4_requireRoomFor cX4_requireRoomFor 2 none, Cond.classLink RX4 111 "java/lang/UnsupportedOperationException", Cond.initialized "java/lang/UnsupportedOperationException", Cond.fieldLink RX4 22 "NoticeStations" "row" "Ljava/util/ArrayList;", Cond.methodLink RX4 175 yJx4a65c_size_8abf5, Cond.instanceMethod yJx4a65c_size_8abf5, Cond.selects RJx4a65c yJx4a65c_size_8abf5 yJx4a65c_size_8abf5, Cond.initialized RJx4a65c, Cond.code yJx4a65c_size_8abf5 cJx4a65c_size_8abf5 1 (some .int)]
def wsX4_resend_r3 : List Cond := [Cond.fieldLink RJx4a65c 48 "java/util/ArrayList" "size" "I", Cond.methodLink RX4 131 yX4_sendAwaited, Cond.instanceMethod yX4_sendAwaited, Cond.selects RX4 yX4_sendAwaited yX4_sendAwaited, Cond.code yX4_sendAwaited cX4_sendAwaited 4 none, Cond.methodLink RX4 148 yX4_send, Cond.instanceMethod yX4_send, Cond.selects RX4 yX4_send yX4_send, Cond.code yX4_send cX4_send 6 none, Cond.classLink RX4 183 RX0, Cond.instantiable RX0 5, Cond.initialized RX0, Cond.instanceMethod yX0_init, Cond.code yX0_init cX0_init 6 none, Cond.methodLink RX0 1 objectInit, Cond.instanceMethod objectInit, Cond.code objectInit ⟨#[0xb1]⟩ 1 none, Cond.fieldLink RX0 7 "NoticeStations$Letter" "kind" "I", Cond.fieldLink RX0 13 "NoticeStations$Letter" "from" "I", Cond.fieldLink RX0 16 "NoticeStations$Letter" "to" "I", Cond.fieldLink RX0 19 "NoticeStations$Letter" "number" "I", Cond.fieldLink RX0 22 "NoticeStations$Letter" "standing" "LNoticeStations$Standing;", Cond.methodLink RX4 213 yJx4a65c_add_9ea2d, Cond.instanceMethod yJx4a65c_add_9ea2d]
def wsX4_resend_r4 : List Cond := [Cond.selects RJx4a65c yJx4a65c_add_9ea2d yJx4a65c_add_9ea2d, Cond.code yJx4a65c_add_9ea2d cJx4a65c_add_9ea2d 2 (some .boolean), Cond.fieldLink RJx4a65c 63 "java/util/ArrayList" "modCount" "I", Cond.sameField "java/util/ArrayList" "java/util/AbstractList" "modCount" "I", Cond.fieldLink RJx4a65c 9 "java/util/ArrayList" "elementData" "[Ljava/lang/Object;", Cond.methodLink RJx4a65c 131 yJx4a65c_add_72be8, Cond.instanceMethod yJx4a65c_add_72be8, Cond.selects RJx4a65c yJx4a65c_add_72be8 yJx4a65c_add_72be8, Cond.code yJx4a65c_add_72be8 cJx4a65c_add_72be8 4 none, Cond.methodLink RJx4a65c 129 yJx4a65c_grow_d5877, Cond.instanceMethod yJx4a65c_grow_d5877, Cond.selects RJx4a65c yJx4a65c_grow_d5877 yJx4a65c_grow_d5877, Cond.code yJx4a65c_grow_d5877 cJx4a65c_grow_d5877 1 (some (.array (.object "java/lang/Object"))), Cond.methodLink RJx4a65c 69 yJx4a65c_grow_92f84, Cond.instanceMethod yJx4a65c_grow_92f84, Cond.selects RJx4a65c yJx4a65c_grow_92f84 yJx4a65c_grow_92f84, Cond.code yJx4a65c_grow_92f84 cJx4a65c_grow_92f84 4 (some (.array (.object "java/lang/Object"))), Cond.fieldLink RJx4a65c 39 "java/util/ArrayList" "DEFAULTCAPACITY_EMPTY_ELEMENTDATA" "[Ljava/lang/Object;", Cond.methodLink RJx4a65c 79 Lib.Math.max.name, Cond.static Lib.Math.max.name, Cond.initialized "java/lang/Math", Cond.code Lib.Math.max.name Lib.Math.max.code 2 (some .int), Cond.classLink RJx4a65c 7 "java/lang/Object", Cond.methodLink RJx4a65c 73 yJ8_newLength_cabcc]
def wsX4_resend_r5 : List Cond := [Cond.static yJ8_newLength_cabcc, Cond.initialized RJ8, Cond.code yJ8_newLength_cabcc cJ8_newLength_cabcc 4 (some .int), Cond.methodLink RJ8 194 Lib.Math.max.name, Cond.constant RJ8 200 (2147483639), Cond.methodLink RJ8 201 yJ8_hugeLength_7cf53, Cond.static yJ8_hugeLength_7cf53, Cond.code yJ8_hugeLength_7cf53 cJ8_hugeLength_7cf53 3 (some .int), Cond.methodLink RJx4a65c 66 yJ7_copyOf_1904c, Cond.static yJ7_copyOf_1904c, Cond.initialized RJ7, Cond.code yJ7_copyOf_1904c cJ7_copyOf_1904c 2 (some (.array (.object "java/lang/Object"))), Cond.methodLink RJ7 86 ⟨"java/lang/Object", "getClass", "()Ljava/lang/Class;"⟩, Cond.selects "[Ljava/lang/Object;" ⟨"java/lang/Object", "getClass", "()Ljava/lang/Class;"⟩ ⟨"java/lang/Object", "getClass", "()Ljava/lang/Class;"⟩, Cond.instanceMethod ⟨"java/lang/Object", "getClass", "()Ljava/lang/Class;"⟩, Cond.native ⟨"java/lang/Object", "getClass", "()Ljava/lang/Class;"⟩, Cond.methodLink RJ7 300 yJ7_copyOf_6403c, Cond.static yJ7_copyOf_6403c, Cond.code yJ7_copyOf_6403c cJ7_copyOf_6403c 4 (some (.array (.object "java/lang/Object"))), Cond.classLink RJ7 110 "[Ljava/lang/Object;", Cond.classLink RJ7 2 "java/lang/Object", Cond.methodLink RJ7 304 Lib.Math.min.name, Cond.static Lib.Math.min.name, Cond.code Lib.Math.min.name Lib.Math.min.code 2 (some .int)]
def wsX4_resend_r6 : List Cond := [Cond.methodLink RJ7 150 arraycopyName, Cond.native arraycopyName, Cond.static arraycopyName, Cond.initialized "java/lang/System"]
def wsX4_resend : List Cond := .code yX4_resend cX4_resend 5 (some .int) :: ((wsX4_resend_r1 ++ (wsX4_resend_r2 ++ (wsX4_resend_r3 ++ (wsX4_resend_r4 ++ (wsX4_resend_r5 ++ wsX4_resend_r6))))) ++ wsX40 ++ wsX30 ++ wsX10 ++ wsJx4a65c0 ++ wsX00 ++ (vx_atS RX4 251 "java/lang/IndexOutOfBoundsException" ["java/lang/RuntimeException", "java/lang/Exception"]).filter goodWord ++ (vx_atS RX4 95 "java/lang/IllegalStateException" ["java/lang/RuntimeException", "java/lang/Exception"]).filter goodWord ++ (vx_atS RX4 115 "java/lang/UnsupportedOperationException" ["java/lang/RuntimeException", "java/lang/Exception"]).filter goodWord)
def wsX4_unlock : List Cond := .code yX4_unlock cX4_unlock 3 none :: ([.classLink RX4 91 "java/lang/IllegalStateException", .initialized "java/lang/IllegalStateException", .methodLink RX4 42 yX4_stationAt, .instanceMethod yX4_stationAt, .selects RX4 yX4_stationAt yX4_stationAt, .initialized RX4, .code yX4_stationAt cX4_stationAt 2 (some (.object "NoticeStations$Station")), .classLink RX4 247 "java/lang/IndexOutOfBoundsException", .initialized "java/lang/IndexOutOfBoundsException", .fieldLink RX4 11 "NoticeStations" "stations" "[LNoticeStations$Station;", .methodLink RX4 46 yX4_isBelow, .static yX4_isBelow, .code yX4_isBelow cX4_isBelow 2 (some .boolean)] ++ wsX30 ++ wsX40 ++ (vx_atS RX4 95 "java/lang/IllegalStateException" ["java/lang/RuntimeException", "java/lang/Exception"]).filter goodWord ++ (vx_atS RX4 251 "java/lang/IndexOutOfBoundsException" ["java/lang/RuntimeException", "java/lang/Exception"]).filter goodWord)
def wsX4_ask_r1 : List Cond := [Cond.classLink RX4 91 "java/lang/IllegalStateException", Cond.initialized "java/lang/IllegalStateException", Cond.fieldLink RX4 11 "NoticeStations" "stations" "[LNoticeStations$Station;", Cond.methodLink RX4 38 yX4_requireTwoStations, Cond.instanceMethod yX4_requireTwoStations, Cond.selects RX4 yX4_requireTwoStations yX4_requireTwoStations, Cond.initialized RX4, Cond.code yX4_requireTwoStations cX4_requireTwoStations 3 none, Cond.classLink RX4 247 "java/lang/IndexOutOfBoundsException", Cond.initialized "java/lang/IndexOutOfBoundsException", Cond.methodLink RX4 46 yX4_isBelow, Cond.static yX4_isBelow, Cond.code yX4_isBelow cX4_isBelow 2 (some .boolean), Cond.instanceMethod yX3_isInDoubt, Cond.initialized RX3, Cond.selects RX3 yX3_isInDoubt yX3_isInDoubt, Cond.code yX3_isInDoubt cX3_isInDoubt 1 (some .boolean), Cond.fieldLink RX3 22 "NoticeStations$Station" "preparedStanding" "LNoticeStations$Standing;", Cond.methodLink RX4 119 yX4_requireRoomFor, Cond.instanceMethod yX4_requireRoomFor, Cond.selects RX4 yX4_requireRoomFor yX4_requireRoomFor, Cond.code yX4_requireRoomFor cX4_requireRoomFor 2 none, Cond.classLink RX4 111 "java/lang/UnsupportedOperationException", Cond.initialized "java/lang/UnsupportedOperationException"]
def wsX4_ask_r2 : List Cond := [Cond.fieldLink RX4 22 "NoticeStations" "row" "Ljava/util/ArrayList;", Cond.methodLink RX4 175 yJx4a65c_size_8abf5, Cond.instanceMethod yJx4a65c_size_8abf5, Cond.selects RJx4a65c yJx4a65c_size_8abf5 yJx4a65c_size_8abf5, Cond.initialized RJx4a65c, Cond.code yJx4a65c_size_8abf5 cJx4a65c_size_8abf5 1 (some .int), Cond.fieldLink RJx4a65c 48 "java/util/ArrayList" "size" "I", Cond.methodLink RX4 148 yX4_send, Cond.instanceMethod yX4_send, Cond.selects RX4 yX4_send yX4_send, Cond.code yX4_send cX4_send 6 none, Cond.classLink RX4 183 RX0, Cond.instantiable RX0 5, Cond.initialized RX0, Cond.instanceMethod yX0_init, Cond.code yX0_init cX0_init 6 none, Cond.methodLink RX0 1 objectInit, Cond.instanceMethod objectInit, Cond.code objectInit ⟨#[0xb1]⟩ 1 none, Cond.fieldLink RX0 7 "NoticeStations$Letter" "kind" "I", Cond.fieldLink RX0 13 "NoticeStations$Letter" "from" "I", Cond.fieldLink RX0 16 "NoticeStations$Letter" "to" "I", Cond.fieldLink RX0 19 "NoticeStations$Letter" "number" "I", Cond.fieldLink RX0 22 "NoticeStations$Letter" "standing" "LNoticeStations$Standing;"]
def wsX4_ask_r3 : List Cond := [Cond.methodLink RX4 213 yJx4a65c_add_9ea2d, Cond.instanceMethod yJx4a65c_add_9ea2d, Cond.selects RJx4a65c yJx4a65c_add_9ea2d yJx4a65c_add_9ea2d, Cond.code yJx4a65c_add_9ea2d cJx4a65c_add_9ea2d 2 (some .boolean), Cond.fieldLink RJx4a65c 63 "java/util/ArrayList" "modCount" "I", Cond.sameField "java/util/ArrayList" "java/util/AbstractList" "modCount" "I", Cond.fieldLink RJx4a65c 9 "java/util/ArrayList" "elementData" "[Ljava/lang/Object;", Cond.methodLink RJx4a65c 131 yJx4a65c_add_72be8, Cond.instanceMethod yJx4a65c_add_72be8, Cond.selects RJx4a65c yJx4a65c_add_72be8 yJx4a65c_add_72be8, Cond.code yJx4a65c_add_72be8 cJx4a65c_add_72be8 4 none, Cond.methodLink RJx4a65c 129 yJx4a65c_grow_d5877, Cond.instanceMethod yJx4a65c_grow_d5877, Cond.selects RJx4a65c yJx4a65c_grow_d5877 yJx4a65c_grow_d5877, Cond.code yJx4a65c_grow_d5877 cJx4a65c_grow_d5877 1 (some (.array (.object "java/lang/Object"))), Cond.methodLink RJx4a65c 69 yJx4a65c_grow_92f84, Cond.instanceMethod yJx4a65c_grow_92f84, Cond.selects RJx4a65c yJx4a65c_grow_92f84 yJx4a65c_grow_92f84, Cond.code yJx4a65c_grow_92f84 cJx4a65c_grow_92f84 4 (some (.array (.object "java/lang/Object"))), Cond.fieldLink RJx4a65c 39 "java/util/ArrayList" "DEFAULTCAPACITY_EMPTY_ELEMENTDATA" "[Ljava/lang/Object;", Cond.methodLink RJx4a65c 79 Lib.Math.max.name, Cond.static Lib.Math.max.name, Cond.initialized "java/lang/Math", Cond.code Lib.Math.max.name Lib.Math.max.code 2 (some .int)]
def wsX4_ask_r4 : List Cond := [Cond.classLink RJx4a65c 7 "java/lang/Object", Cond.methodLink RJx4a65c 73 yJ8_newLength_cabcc, Cond.static yJ8_newLength_cabcc, Cond.initialized RJ8, Cond.code yJ8_newLength_cabcc cJ8_newLength_cabcc 4 (some .int), Cond.methodLink RJ8 194 Lib.Math.max.name, Cond.constant RJ8 200 (2147483639), Cond.methodLink RJ8 201 yJ8_hugeLength_7cf53, Cond.static yJ8_hugeLength_7cf53, Cond.code yJ8_hugeLength_7cf53 cJ8_hugeLength_7cf53 3 (some .int), Cond.methodLink RJx4a65c 66 yJ7_copyOf_1904c, Cond.static yJ7_copyOf_1904c, Cond.initialized RJ7, Cond.code yJ7_copyOf_1904c cJ7_copyOf_1904c 2 (some (.array (.object "java/lang/Object"))), Cond.methodLink RJ7 86 ⟨"java/lang/Object", "getClass", "()Ljava/lang/Class;"⟩, Cond.selects "[Ljava/lang/Object;" ⟨"java/lang/Object", "getClass", "()Ljava/lang/Class;"⟩ ⟨"java/lang/Object", "getClass", "()Ljava/lang/Class;"⟩, Cond.instanceMethod ⟨"java/lang/Object", "getClass", "()Ljava/lang/Class;"⟩, Cond.native ⟨"java/lang/Object", "getClass", "()Ljava/lang/Class;"⟩, Cond.methodLink RJ7 300 yJ7_copyOf_6403c, Cond.static yJ7_copyOf_6403c, Cond.code yJ7_copyOf_6403c cJ7_copyOf_6403c 4 (some (.array (.object "java/lang/Object"))), Cond.classLink RJ7 110 "[Ljava/lang/Object;", Cond.classLink RJ7 2 "java/lang/Object", Cond.methodLink RJ7 304 Lib.Math.min.name]
def wsX4_ask_r5 : List Cond := [Cond.static Lib.Math.min.name, Cond.code Lib.Math.min.name Lib.Math.min.code 2 (some .int), Cond.methodLink RJ7 150 arraycopyName, Cond.native arraycopyName, Cond.static arraycopyName, Cond.initialized "java/lang/System"]
def wsX4_ask : List Cond := .code yX4_ask cX4_ask 4 none :: ((wsX4_ask_r1 ++ (wsX4_ask_r2 ++ (wsX4_ask_r3 ++ (wsX4_ask_r4 ++ wsX4_ask_r5)))) ++ wsX40 ++ wsX30 ++ wsJx4a65c0 ++ wsX00 ++ (vx_atS RX4 95 "java/lang/IllegalStateException" ["java/lang/RuntimeException", "java/lang/Exception"]).filter goodWord ++ (vx_atS RX4 251 "java/lang/IndexOutOfBoundsException" ["java/lang/RuntimeException", "java/lang/Exception"]).filter goodWord ++ (vx_atS RX4 115 "java/lang/UnsupportedOperationException" ["java/lang/RuntimeException", "java/lang/Exception"]).filter goodWord)
def wsX4_stop : List Cond := .code yX4_stop cX4_stop 4 (some .boolean) :: ([.methodLink RX4 42 yX4_stationAt, .instanceMethod yX4_stationAt, .selects RX4 yX4_stationAt yX4_stationAt, .initialized RX4, .code yX4_stationAt cX4_stationAt 2 (some (.object "NoticeStations$Station")), .classLink RX4 247 "java/lang/IndexOutOfBoundsException", .initialized "java/lang/IndexOutOfBoundsException", .fieldLink RX4 11 "NoticeStations" "stations" "[LNoticeStations$Station;", .methodLink RX4 46 yX4_isBelow, .static yX4_isBelow, .code yX4_isBelow cX4_isBelow 2 (some .boolean), .instanceMethod yX3_forgetWrite, .initialized RX3, .selects RX3 yX3_forgetWrite yX3_forgetWrite, .code yX3_forgetWrite cX3_forgetWrite 1 none, .fieldLink RX3 26 "NoticeStations$Station" "lock" "I", .fieldLink RX3 29 "NoticeStations$Station" "open" "LNoticeStations$OpenWrite;"] ++ wsX30 ++ wsX40 ++ (vx_atS RX4 251 "java/lang/IndexOutOfBoundsException" ["java/lang/RuntimeException", "java/lang/Exception"]).filter goodWord)
def wsX4_start : List Cond := .code yX4_start cX4_start 4 (some .boolean) :: ([.methodLink RX4 42 yX4_stationAt, .instanceMethod yX4_stationAt, .selects RX4 yX4_stationAt yX4_stationAt, .initialized RX4, .code yX4_stationAt cX4_stationAt 2 (some (.object "NoticeStations$Station")), .classLink RX4 247 "java/lang/IndexOutOfBoundsException", .initialized "java/lang/IndexOutOfBoundsException", .fieldLink RX4 11 "NoticeStations" "stations" "[LNoticeStations$Station;", .methodLink RX4 46 yX4_isBelow, .static yX4_isBelow, .code yX4_isBelow cX4_isBelow 2 (some .boolean), .instanceMethod yX3_forgetWrite, .initialized RX3, .selects RX3 yX3_forgetWrite yX3_forgetWrite, .code yX3_forgetWrite cX3_forgetWrite 1 none, .fieldLink RX3 26 "NoticeStations$Station" "lock" "I", .fieldLink RX3 29 "NoticeStations$Station" "open" "LNoticeStations$OpenWrite;"] ++ wsX30 ++ wsX40 ++ (vx_atS RX4 251 "java/lang/IndexOutOfBoundsException" ["java/lang/RuntimeException", "java/lang/Exception"]).filter goodWord)
def wsX4_letters : List Cond := .code yX4_letters cX4_letters 1 (some .int) :: ([.fieldLink RX4 22 "NoticeStations" "row" "Ljava/util/ArrayList;", .methodLink RX4 175 yJx4a65c_size_8abf5, .instanceMethod yJx4a65c_size_8abf5, .selects RJx4a65c yJx4a65c_size_8abf5 yJx4a65c_size_8abf5, .initialized RJx4a65c, .code yJx4a65c_size_8abf5 cJx4a65c_size_8abf5 1 (some .int), .fieldLink RJx4a65c 48 "java/util/ArrayList" "size" "I"] ++ wsX40 ++ wsJx4a65c0)
def wsX4_requireLetter : List Cond := .code yX4_requireLetter cX4_requireLetter 2 none :: ([.classLink RX4 247 "java/lang/IndexOutOfBoundsException", .initialized "java/lang/IndexOutOfBoundsException", .fieldLink RX4 22 "NoticeStations" "row" "Ljava/util/ArrayList;", .methodLink RX4 175 yJx4a65c_size_8abf5, .instanceMethod yJx4a65c_size_8abf5, .selects RJx4a65c yJx4a65c_size_8abf5 yJx4a65c_size_8abf5, .initialized RJx4a65c, .code yJx4a65c_size_8abf5 cJx4a65c_size_8abf5 1 (some .int), .fieldLink RJx4a65c 48 "java/util/ArrayList" "size" "I", .methodLink RX4 46 yX4_isBelow, .static yX4_isBelow, .initialized RX4, .code yX4_isBelow cX4_isBelow 2 (some .boolean)] ++ wsX40 ++ wsJx4a65c0 ++ (vx_atS RX4 251 "java/lang/IndexOutOfBoundsException" ["java/lang/RuntimeException", "java/lang/Exception"]).filter goodWord)
def wsJ3_checkIndex_8e157 : List Cond := .code yJ3_checkIndex_8e157 cJ3_checkIndex_8e157 3 (some .int) :: ([])
def wsJ15_checkIndex_7cf53 : List Cond := .code yJ15_checkIndex_7cf53 cJ15_checkIndex_7cf53 2 (some .int) :: ([.methodLink RJ15 105 yJ3_checkIndex_8e157, .static yJ3_checkIndex_8e157, .initialized RJ3, .code yJ3_checkIndex_8e157 cJ3_checkIndex_8e157 3 (some .int)])
def wsJx4a65c_elementData_915e3 : List Cond := .code yJx4a65c_elementData_915e3 cJx4a65c_elementData_915e3 2 (some (.object "java/lang/Object")) :: ([.fieldLink RJx4a65c 9 "java/util/ArrayList" "elementData" "[Ljava/lang/Object;"] ++ wsJx4a65c0)
def wsJx4a65c_get_915e3 : List Cond := .code yJx4a65c_get_915e3 cJx4a65c_get_915e3 2 (some (.object "java/lang/Object")) :: ([.fieldLink RJx4a65c 48 "java/util/ArrayList" "size" "I", .methodLink RJx4a65c 118 yJ15_checkIndex_7cf53, .static yJ15_checkIndex_7cf53, .initialized RJ15, .code yJ15_checkIndex_7cf53 cJ15_checkIndex_7cf53 2 (some .int), .methodLink RJ15 105 yJ3_checkIndex_8e157, .static yJ3_checkIndex_8e157, .initialized RJ3, .code yJ3_checkIndex_8e157 cJ3_checkIndex_8e157 3 (some .int), .methodLink RJx4a65c 123 yJx4a65c_elementData_915e3, .instanceMethod yJx4a65c_elementData_915e3, .selects RJx4a65c yJx4a65c_elementData_915e3 yJx4a65c_elementData_915e3, .initialized RJx4a65c, .code yJx4a65c_elementData_915e3 cJx4a65c_elementData_915e3 2 (some (.object "java/lang/Object")), .fieldLink RJx4a65c 9 "java/util/ArrayList" "elementData" "[Ljava/lang/Object;"] ++ wsJx4a65c0)
def wsX4_letterAt_r1 : List Cond := [Cond.fieldLink RX4 22 "NoticeStations" "row" "Ljava/util/ArrayList;", Cond.classLink RX4 183 "NoticeStations$Letter", Cond.methodLink RX4 210 yX4_requireLetter, Cond.instanceMethod yX4_requireLetter, Cond.selects RX4 yX4_requireLetter yX4_requireLetter, Cond.initialized RX4, Cond.code yX4_requireLetter cX4_requireLetter 2 none, Cond.classLink RX4 247 "java/lang/IndexOutOfBoundsException", Cond.initialized "java/lang/IndexOutOfBoundsException", Cond.methodLink RX4 175 yJx4a65c_size_8abf5, Cond.instanceMethod yJx4a65c_size_8abf5, Cond.selects RJx4a65c yJx4a65c_size_8abf5 yJx4a65c_size_8abf5, Cond.initialized RJx4a65c, Cond.code yJx4a65c_size_8abf5 cJx4a65c_size_8abf5 1 (some .int), Cond.fieldLink RJx4a65c 48 "java/util/ArrayList" "size" "I", Cond.methodLink RX4 46 yX4_isBelow, Cond.static yX4_isBelow, Cond.code yX4_isBelow cX4_isBelow 2 (some .boolean), Cond.methodLink RX4 256 yJx4a65c_get_915e3, Cond.instanceMethod yJx4a65c_get_915e3, Cond.selects RJx4a65c yJx4a65c_get_915e3 yJx4a65c_get_915e3, Cond.code yJx4a65c_get_915e3 cJx4a65c_get_915e3 2 (some (.object "java/lang/Object")), Cond.methodLink RJx4a65c 118 yJ15_checkIndex_7cf53, Cond.static yJ15_checkIndex_7cf53]
def wsX4_letterAt_r2 : List Cond := [Cond.initialized RJ15, Cond.code yJ15_checkIndex_7cf53 cJ15_checkIndex_7cf53 2 (some .int), Cond.methodLink RJ15 105 yJ3_checkIndex_8e157, Cond.static yJ3_checkIndex_8e157, Cond.initialized RJ3, Cond.code yJ3_checkIndex_8e157 cJ3_checkIndex_8e157 3 (some .int), Cond.methodLink RJx4a65c 123 yJx4a65c_elementData_915e3, Cond.instanceMethod yJx4a65c_elementData_915e3, Cond.selects RJx4a65c yJx4a65c_elementData_915e3 yJx4a65c_elementData_915e3, Cond.code yJx4a65c_elementData_915e3 cJx4a65c_elementData_915e3 2 (some (.object "java/lang/Object")), Cond.fieldLink RJx4a65c 9 "java/util/ArrayList" "elementData" "[Ljava/lang/Object;"]
def wsX4_letterAt : List Cond := .code yX4_letterAt cX4_letterAt 2 (some (.object "NoticeStations$Letter")) :: ((wsX4_letterAt_r1 ++ wsX4_letterAt_r2) ++ wsX40 ++ wsJx4a65c0 ++ (vx_atS RX4 251 "java/lang/IndexOutOfBoundsException" ["java/lang/RuntimeException", "java/lang/Exception"]).filter goodWord)
def wsX4_areInOnePiece : List Cond := .code yX4_areInOnePiece cX4_areInOnePiece 6 (some .boolean) :: ([.fieldLink RX4 15 "NoticeStations" "cables" "[I"] ++ wsX40)
def wsX4_openWriteFor : List Cond := .code yX4_openWriteFor cX4_openWriteFor 3 (some (.object "NoticeStations$OpenWrite")) :: ([] ++ wsX30 ++ wsX10 ++ wsX00)
def wsX4_answersTo_r1 : List Cond := [Cond.methodLink RX4 280 yX4_openWriteFor, Cond.static yX4_openWriteFor, Cond.initialized RX4, Cond.code yX4_openWriteFor cX4_openWriteFor 3 (some (.object "NoticeStations$OpenWrite")), Cond.instanceMethod yX1_isCollecting, Cond.initialized RX1, Cond.selects RX1 yX1_isCollecting yX1_isCollecting, Cond.code yX1_isCollecting cX1_isCollecting 1 (some .boolean), Cond.fieldLink RX1 21 "NoticeStations$OpenWrite" "next" "LNoticeStations$Standing;", Cond.instanceMethod yX1_awaits, Cond.selects RX1 yX1_awaits yX1_awaits, Cond.code yX1_awaits cX1_awaits 2 (some .boolean), Cond.fieldLink RX1 11 "NoticeStations$OpenWrite" "granted" "[LNoticeStations$Standing;", Cond.fieldLink RX1 17 "NoticeStations$OpenWrite" "prepared" "[Z", Cond.methodLink RX1 32 yX1_isCollecting, Cond.methodLink RX1 36 yX1_isOfGroup, Cond.instanceMethod yX1_isOfGroup, Cond.selects RX1 yX1_isOfGroup yX1_isOfGroup, Cond.code yX1_isOfGroup cX1_isOfGroup 2 (some .boolean), Cond.instanceMethod yX1_awaited, Cond.selects RX1 yX1_awaited yX1_awaited, Cond.code yX1_awaited cX1_awaited 3 (some .int), Cond.methodLink RX1 40 yX1_awaits, Cond.instanceMethod yX1_groupSize]
def wsX4_answersTo_r2 : List Cond := [Cond.selects RX1 yX1_groupSize yX1_groupSize, Cond.code yX1_groupSize cX1_groupSize 3 (some .int)]
def wsX4_answersTo : List Cond := .code yX4_answersTo cX4_answersTo 3 (some .int) :: ((wsX4_answersTo_r1 ++ wsX4_answersTo_r2) ++ wsX00 ++ wsX30 ++ wsX10)
def wsJx4a65c_fastRemove_b59b0 : List Cond := .code yJx4a65c_fastRemove_b59b0 cJx4a65c_fastRemove_b59b0 4 none :: ([.fieldLink RJx4a65c 63 "java/util/ArrayList" "modCount" "I", .sameField "java/util/ArrayList" "java/util/AbstractList" "modCount" "I", .fieldLink RJx4a65c 48 "java/util/ArrayList" "size" "I", .methodLink RJx4a65c 112 arraycopyName, .native arraycopyName, .static arraycopyName, .initialized "java/lang/System"] ++ wsJx4a65c0)
def wsJx4a65c_remove_915e3 : List Cond := .code yJx4a65c_remove_915e3 cJx4a65c_remove_915e3 4 (some (.object "java/lang/Object")) :: ([.fieldLink RJx4a65c 48 "java/util/ArrayList" "size" "I", .fieldLink RJx4a65c 9 "java/util/ArrayList" "elementData" "[Ljava/lang/Object;", .methodLink RJx4a65c 118 yJ15_checkIndex_7cf53, .static yJ15_checkIndex_7cf53, .initialized RJ15, .code yJ15_checkIndex_7cf53 cJ15_checkIndex_7cf53 2 (some .int), .methodLink RJ15 105 yJ3_checkIndex_8e157, .static yJ3_checkIndex_8e157, .initialized RJ3, .code yJ3_checkIndex_8e157 cJ3_checkIndex_8e157 3 (some .int), .methodLink RJx4a65c 144 yJx4a65c_fastRemove_b59b0, .instanceMethod yJx4a65c_fastRemove_b59b0, .selects RJx4a65c yJx4a65c_fastRemove_b59b0 yJx4a65c_fastRemove_b59b0, .initialized RJx4a65c, .code yJx4a65c_fastRemove_b59b0 cJx4a65c_fastRemove_b59b0 4 none, .fieldLink RJx4a65c 63 "java/util/ArrayList" "modCount" "I", .sameField "java/util/ArrayList" "java/util/AbstractList" "modCount" "I", .methodLink RJx4a65c 112 arraycopyName, .native arraycopyName, .static arraycopyName, .initialized "java/lang/System"] ++ wsJx4a65c0)
def wsX4_sendBack_r1 : List Cond := [Cond.methodLink RX4 148 yX4_send, Cond.instanceMethod yX4_send, Cond.selects RX4 yX4_send yX4_send, Cond.initialized RX4, Cond.code yX4_send cX4_send 6 none, Cond.fieldLink RX4 22 "NoticeStations" "row" "Ljava/util/ArrayList;", Cond.classLink RX4 183 RX0, Cond.instantiable RX0 5, Cond.initialized RX0, Cond.instanceMethod yX0_init, Cond.code yX0_init cX0_init 6 none, Cond.methodLink RX0 1 objectInit, Cond.instanceMethod objectInit, Cond.code objectInit ⟨#[0xb1]⟩ 1 none, Cond.fieldLink RX0 7 "NoticeStations$Letter" "kind" "I", Cond.fieldLink RX0 13 "NoticeStations$Letter" "from" "I", Cond.fieldLink RX0 16 "NoticeStations$Letter" "to" "I", Cond.fieldLink RX0 19 "NoticeStations$Letter" "number" "I", Cond.fieldLink RX0 22 "NoticeStations$Letter" "standing" "LNoticeStations$Standing;", Cond.methodLink RX4 213 yJx4a65c_add_9ea2d, Cond.instanceMethod yJx4a65c_add_9ea2d, Cond.selects RJx4a65c yJx4a65c_add_9ea2d yJx4a65c_add_9ea2d, Cond.initialized RJx4a65c, Cond.code yJx4a65c_add_9ea2d cJx4a65c_add_9ea2d 2 (some .boolean)]
def wsX4_sendBack_r2 : List Cond := [Cond.fieldLink RJx4a65c 63 "java/util/ArrayList" "modCount" "I", Cond.sameField "java/util/ArrayList" "java/util/AbstractList" "modCount" "I", Cond.fieldLink RJx4a65c 9 "java/util/ArrayList" "elementData" "[Ljava/lang/Object;", Cond.fieldLink RJx4a65c 48 "java/util/ArrayList" "size" "I", Cond.methodLink RJx4a65c 131 yJx4a65c_add_72be8, Cond.instanceMethod yJx4a65c_add_72be8, Cond.selects RJx4a65c yJx4a65c_add_72be8 yJx4a65c_add_72be8, Cond.code yJx4a65c_add_72be8 cJx4a65c_add_72be8 4 none, Cond.methodLink RJx4a65c 129 yJx4a65c_grow_d5877, Cond.instanceMethod yJx4a65c_grow_d5877, Cond.selects RJx4a65c yJx4a65c_grow_d5877 yJx4a65c_grow_d5877, Cond.code yJx4a65c_grow_d5877 cJx4a65c_grow_d5877 1 (some (.array (.object "java/lang/Object"))), Cond.methodLink RJx4a65c 69 yJx4a65c_grow_92f84, Cond.instanceMethod yJx4a65c_grow_92f84, Cond.selects RJx4a65c yJx4a65c_grow_92f84 yJx4a65c_grow_92f84, Cond.code yJx4a65c_grow_92f84 cJx4a65c_grow_92f84 4 (some (.array (.object "java/lang/Object"))), Cond.fieldLink RJx4a65c 39 "java/util/ArrayList" "DEFAULTCAPACITY_EMPTY_ELEMENTDATA" "[Ljava/lang/Object;", Cond.methodLink RJx4a65c 79 Lib.Math.max.name, Cond.static Lib.Math.max.name, Cond.initialized "java/lang/Math", Cond.code Lib.Math.max.name Lib.Math.max.code 2 (some .int), Cond.classLink RJx4a65c 7 "java/lang/Object", Cond.methodLink RJx4a65c 73 yJ8_newLength_cabcc, Cond.static yJ8_newLength_cabcc]
def wsX4_sendBack_r3 : List Cond := [Cond.initialized RJ8, Cond.code yJ8_newLength_cabcc cJ8_newLength_cabcc 4 (some .int), Cond.methodLink RJ8 194 Lib.Math.max.name, Cond.constant RJ8 200 (2147483639), Cond.methodLink RJ8 201 yJ8_hugeLength_7cf53, Cond.static yJ8_hugeLength_7cf53, Cond.code yJ8_hugeLength_7cf53 cJ8_hugeLength_7cf53 3 (some .int), Cond.methodLink RJx4a65c 66 yJ7_copyOf_1904c, Cond.static yJ7_copyOf_1904c, Cond.initialized RJ7, Cond.code yJ7_copyOf_1904c cJ7_copyOf_1904c 2 (some (.array (.object "java/lang/Object"))), Cond.methodLink RJ7 86 ⟨"java/lang/Object", "getClass", "()Ljava/lang/Class;"⟩, Cond.selects "[Ljava/lang/Object;" ⟨"java/lang/Object", "getClass", "()Ljava/lang/Class;"⟩ ⟨"java/lang/Object", "getClass", "()Ljava/lang/Class;"⟩, Cond.instanceMethod ⟨"java/lang/Object", "getClass", "()Ljava/lang/Class;"⟩, Cond.native ⟨"java/lang/Object", "getClass", "()Ljava/lang/Class;"⟩, Cond.methodLink RJ7 300 yJ7_copyOf_6403c, Cond.static yJ7_copyOf_6403c, Cond.code yJ7_copyOf_6403c cJ7_copyOf_6403c 4 (some (.array (.object "java/lang/Object"))), Cond.classLink RJ7 110 "[Ljava/lang/Object;", Cond.classLink RJ7 2 "java/lang/Object", Cond.methodLink RJ7 304 Lib.Math.min.name, Cond.static Lib.Math.min.name, Cond.code Lib.Math.min.name Lib.Math.min.code 2 (some .int), Cond.methodLink RJ7 150 arraycopyName]
def wsX4_sendBack_r4 : List Cond := [Cond.native arraycopyName, Cond.static arraycopyName, Cond.initialized "java/lang/System"]
def wsX4_sendBack : List Cond := .code yX4_sendBack cX4_sendBack 4 none :: ((wsX4_sendBack_r1 ++ (wsX4_sendBack_r2 ++ (wsX4_sendBack_r3 ++ wsX4_sendBack_r4))) ++ wsX00 ++ wsX40 ++ wsJx4a65c0)
def wsX4_takeLock_r1 : List Cond := [Cond.instanceMethod yX3_isFree, Cond.initialized RX3, Cond.selects RX3 yX3_isFree yX3_isFree, Cond.code yX3_isFree cX3_isFree 1 (some .boolean), Cond.fieldLink RX3 9 "NoticeStations$Station" "up" "Z", Cond.fieldLink RX3 26 "NoticeStations$Station" "lock" "I", Cond.methodLink RX3 39 yX3_isInDoubt, Cond.instanceMethod yX3_isInDoubt, Cond.selects RX3 yX3_isInDoubt yX3_isInDoubt, Cond.code yX3_isInDoubt cX3_isInDoubt 1 (some .boolean), Cond.fieldLink RX3 22 "NoticeStations$Station" "preparedStanding" "LNoticeStations$Standing;", Cond.methodLink RX4 305 yX4_sendBack, Cond.instanceMethod yX4_sendBack, Cond.selects RX4 yX4_sendBack yX4_sendBack, Cond.initialized RX4, Cond.code yX4_sendBack cX4_sendBack 4 none, Cond.methodLink RX4 148 yX4_send, Cond.instanceMethod yX4_send, Cond.selects RX4 yX4_send yX4_send, Cond.code yX4_send cX4_send 6 none, Cond.fieldLink RX4 22 "NoticeStations" "row" "Ljava/util/ArrayList;", Cond.classLink RX4 183 RX0, Cond.instantiable RX0 5, Cond.initialized RX0]
def wsX4_takeLock_r2 : List Cond := [Cond.instanceMethod yX0_init, Cond.code yX0_init cX0_init 6 none, Cond.methodLink RX0 1 objectInit, Cond.instanceMethod objectInit, Cond.code objectInit ⟨#[0xb1]⟩ 1 none, Cond.fieldLink RX0 7 "NoticeStations$Letter" "kind" "I", Cond.fieldLink RX0 13 "NoticeStations$Letter" "from" "I", Cond.fieldLink RX0 16 "NoticeStations$Letter" "to" "I", Cond.fieldLink RX0 19 "NoticeStations$Letter" "number" "I", Cond.fieldLink RX0 22 "NoticeStations$Letter" "standing" "LNoticeStations$Standing;", Cond.methodLink RX4 213 yJx4a65c_add_9ea2d, Cond.instanceMethod yJx4a65c_add_9ea2d, Cond.selects RJx4a65c yJx4a65c_add_9ea2d yJx4a65c_add_9ea2d, Cond.initialized RJx4a65c, Cond.code yJx4a65c_add_9ea2d cJx4a65c_add_9ea2d 2 (some .boolean), Cond.fieldLink RJx4a65c 63 "java/util/ArrayList" "modCount" "I", Cond.sameField "java/util/ArrayList" "java/util/AbstractList" "modCount" "I", Cond.fieldLink RJx4a65c 9 "java/util/ArrayList" "elementData" "[Ljava/lang/Object;", Cond.fieldLink RJx4a65c 48 "java/util/ArrayList" "size" "I", Cond.methodLink RJx4a65c 131 yJx4a65c_add_72be8, Cond.instanceMethod yJx4a65c_add_72be8, Cond.selects RJx4a65c yJx4a65c_add_72be8 yJx4a65c_add_72be8, Cond.code yJx4a65c_add_72be8 cJx4a65c_add_72be8 4 none, Cond.methodLink RJx4a65c 129 yJx4a65c_grow_d5877]
def wsX4_takeLock_r3 : List Cond := [Cond.instanceMethod yJx4a65c_grow_d5877, Cond.selects RJx4a65c yJx4a65c_grow_d5877 yJx4a65c_grow_d5877, Cond.code yJx4a65c_grow_d5877 cJx4a65c_grow_d5877 1 (some (.array (.object "java/lang/Object"))), Cond.methodLink RJx4a65c 69 yJx4a65c_grow_92f84, Cond.instanceMethod yJx4a65c_grow_92f84, Cond.selects RJx4a65c yJx4a65c_grow_92f84 yJx4a65c_grow_92f84, Cond.code yJx4a65c_grow_92f84 cJx4a65c_grow_92f84 4 (some (.array (.object "java/lang/Object"))), Cond.fieldLink RJx4a65c 39 "java/util/ArrayList" "DEFAULTCAPACITY_EMPTY_ELEMENTDATA" "[Ljava/lang/Object;", Cond.methodLink RJx4a65c 79 Lib.Math.max.name, Cond.static Lib.Math.max.name, Cond.initialized "java/lang/Math", Cond.code Lib.Math.max.name Lib.Math.max.code 2 (some .int), Cond.classLink RJx4a65c 7 "java/lang/Object", Cond.methodLink RJx4a65c 73 yJ8_newLength_cabcc, Cond.static yJ8_newLength_cabcc, Cond.initialized RJ8, Cond.code yJ8_newLength_cabcc cJ8_newLength_cabcc 4 (some .int), Cond.methodLink RJ8 194 Lib.Math.max.name, Cond.constant RJ8 200 (2147483639), Cond.methodLink RJ8 201 yJ8_hugeLength_7cf53, Cond.static yJ8_hugeLength_7cf53, Cond.code yJ8_hugeLength_7cf53 cJ8_hugeLength_7cf53 3 (some .int), Cond.methodLink RJx4a65c 66 yJ7_copyOf_1904c, Cond.static yJ7_copyOf_1904c]
def wsX4_takeLock_r4 : List Cond := [Cond.initialized RJ7, Cond.code yJ7_copyOf_1904c cJ7_copyOf_1904c 2 (some (.array (.object "java/lang/Object"))), Cond.methodLink RJ7 86 ⟨"java/lang/Object", "getClass", "()Ljava/lang/Class;"⟩, Cond.selects "[Ljava/lang/Object;" ⟨"java/lang/Object", "getClass", "()Ljava/lang/Class;"⟩ ⟨"java/lang/Object", "getClass", "()Ljava/lang/Class;"⟩, Cond.instanceMethod ⟨"java/lang/Object", "getClass", "()Ljava/lang/Class;"⟩, Cond.native ⟨"java/lang/Object", "getClass", "()Ljava/lang/Class;"⟩, Cond.methodLink RJ7 300 yJ7_copyOf_6403c, Cond.static yJ7_copyOf_6403c, Cond.code yJ7_copyOf_6403c cJ7_copyOf_6403c 4 (some (.array (.object "java/lang/Object"))), Cond.classLink RJ7 110 "[Ljava/lang/Object;", Cond.classLink RJ7 2 "java/lang/Object", Cond.methodLink RJ7 304 Lib.Math.min.name, Cond.static Lib.Math.min.name, Cond.code Lib.Math.min.name Lib.Math.min.code 2 (some .int), Cond.methodLink RJ7 150 arraycopyName, Cond.native arraycopyName, Cond.static arraycopyName, Cond.initialized "java/lang/System"]
def wsX4_takeLock : List Cond := .code yX4_takeLock cX4_takeLock 3 none :: ((wsX4_takeLock_r1 ++ (wsX4_takeLock_r2 ++ (wsX4_takeLock_r3 ++ wsX4_takeLock_r4))) ++ wsX00 ++ wsX30 ++ wsX40 ++ wsJx4a65c0)
def wsX4_takeGrant : List Cond := .code yX4_takeGrant cX4_takeGrant 4 none :: ([.methodLink RX4 280 yX4_openWriteFor, .static yX4_openWriteFor, .initialized RX4, .code yX4_openWriteFor cX4_openWriteFor 3 (some (.object "NoticeStations$OpenWrite")), .instanceMethod yX1_isCollecting, .initialized RX1, .selects RX1 yX1_isCollecting yX1_isCollecting, .code yX1_isCollecting cX1_isCollecting 1 (some .boolean), .fieldLink RX1 21 "NoticeStations$OpenWrite" "next" "LNoticeStations$Standing;"] ++ wsX10 ++ wsX00 ++ wsX30)
def wsX4_takePrepare_r1 : List Cond := [Cond.instanceMethod yX0_goesOnFrom, Cond.initialized RX0, Cond.selects RX0 yX0_goesOnFrom yX0_goesOnFrom, Cond.code yX0_goesOnFrom cX0_goesOnFrom 2 (some .boolean), Cond.fieldLink RX0 22 "NoticeStations$Letter" "standing" "LNoticeStations$Standing;", Cond.instanceMethod yX2_goesOnFrom, Cond.initialized RX2, Cond.selects RX2 yX2_goesOnFrom yX2_goesOnFrom, Cond.code yX2_goesOnFrom cX2_goesOnFrom 3 (some .boolean), Cond.fieldLink RX2 7 "NoticeStations$Standing" "entries" "[I", Cond.fieldLink RX2 13 "NoticeStations$Standing" "numbers" "[I", Cond.methodLink RX2 33 yX2_length, Cond.instanceMethod yX2_length, Cond.selects RX2 yX2_length yX2_length, Cond.code yX2_length cX2_length 1 (some .int), Cond.instanceMethod yX3_isPreparedFor, Cond.initialized RX3, Cond.selects RX3 yX3_isPreparedFor yX3_isPreparedFor, Cond.code yX3_isPreparedFor cX3_isPreparedFor 2 (some .boolean), Cond.fieldLink RX3 19 "NoticeStations$Station" "preparedNumber" "I", Cond.methodLink RX3 39 yX3_isInDoubt, Cond.instanceMethod yX3_isInDoubt, Cond.selects RX3 yX3_isInDoubt yX3_isInDoubt, Cond.code yX3_isInDoubt cX3_isInDoubt 1 (some .boolean)]
def wsX4_takePrepare_r2 : List Cond := [Cond.fieldLink RX3 22 "NoticeStations$Station" "preparedStanding" "LNoticeStations$Standing;", Cond.methodLink RX4 305 yX4_sendBack, Cond.instanceMethod yX4_sendBack, Cond.selects RX4 yX4_sendBack yX4_sendBack, Cond.initialized RX4, Cond.code yX4_sendBack cX4_sendBack 4 none, Cond.methodLink RX4 148 yX4_send, Cond.instanceMethod yX4_send, Cond.selects RX4 yX4_send yX4_send, Cond.code yX4_send cX4_send 6 none, Cond.fieldLink RX4 22 "NoticeStations" "row" "Ljava/util/ArrayList;", Cond.classLink RX4 183 RX0, Cond.instantiable RX0 5, Cond.instanceMethod yX0_init, Cond.code yX0_init cX0_init 6 none, Cond.methodLink RX0 1 objectInit, Cond.instanceMethod objectInit, Cond.code objectInit ⟨#[0xb1]⟩ 1 none, Cond.fieldLink RX0 7 "NoticeStations$Letter" "kind" "I", Cond.fieldLink RX0 13 "NoticeStations$Letter" "from" "I", Cond.fieldLink RX0 16 "NoticeStations$Letter" "to" "I", Cond.fieldLink RX0 19 "NoticeStations$Letter" "number" "I", Cond.methodLink RX4 213 yJx4a65c_add_9ea2d, Cond.instanceMethod yJx4a65c_add_9ea2d]
def wsX4_takePrepare_r3 : List Cond := [Cond.selects RJx4a65c yJx4a65c_add_9ea2d yJx4a65c_add_9ea2d, Cond.initialized RJx4a65c, Cond.code yJx4a65c_add_9ea2d cJx4a65c_add_9ea2d 2 (some .boolean), Cond.fieldLink RJx4a65c 63 "java/util/ArrayList" "modCount" "I", Cond.sameField "java/util/ArrayList" "java/util/AbstractList" "modCount" "I", Cond.fieldLink RJx4a65c 9 "java/util/ArrayList" "elementData" "[Ljava/lang/Object;", Cond.fieldLink RJx4a65c 48 "java/util/ArrayList" "size" "I", Cond.methodLink RJx4a65c 131 yJx4a65c_add_72be8, Cond.instanceMethod yJx4a65c_add_72be8, Cond.selects RJx4a65c yJx4a65c_add_72be8 yJx4a65c_add_72be8, Cond.code yJx4a65c_add_72be8 cJx4a65c_add_72be8 4 none, Cond.methodLink RJx4a65c 129 yJx4a65c_grow_d5877, Cond.instanceMethod yJx4a65c_grow_d5877, Cond.selects RJx4a65c yJx4a65c_grow_d5877 yJx4a65c_grow_d5877, Cond.code yJx4a65c_grow_d5877 cJx4a65c_grow_d5877 1 (some (.array (.object "java/lang/Object"))), Cond.methodLink RJx4a65c 69 yJx4a65c_grow_92f84, Cond.instanceMethod yJx4a65c_grow_92f84, Cond.selects RJx4a65c yJx4a65c_grow_92f84 yJx4a65c_grow_92f84, Cond.code yJx4a65c_grow_92f84 cJx4a65c_grow_92f84 4 (some (.array (.object "java/lang/Object"))), Cond.fieldLink RJx4a65c 39 "java/util/ArrayList" "DEFAULTCAPACITY_EMPTY_ELEMENTDATA" "[Ljava/lang/Object;", Cond.methodLink RJx4a65c 79 Lib.Math.max.name, Cond.static Lib.Math.max.name, Cond.initialized "java/lang/Math", Cond.code Lib.Math.max.name Lib.Math.max.code 2 (some .int)]
def wsX4_takePrepare_r4 : List Cond := [Cond.classLink RJx4a65c 7 "java/lang/Object", Cond.methodLink RJx4a65c 73 yJ8_newLength_cabcc, Cond.static yJ8_newLength_cabcc, Cond.initialized RJ8, Cond.code yJ8_newLength_cabcc cJ8_newLength_cabcc 4 (some .int), Cond.methodLink RJ8 194 Lib.Math.max.name, Cond.constant RJ8 200 (2147483639), Cond.methodLink RJ8 201 yJ8_hugeLength_7cf53, Cond.static yJ8_hugeLength_7cf53, Cond.code yJ8_hugeLength_7cf53 cJ8_hugeLength_7cf53 3 (some .int), Cond.methodLink RJx4a65c 66 yJ7_copyOf_1904c, Cond.static yJ7_copyOf_1904c, Cond.initialized RJ7, Cond.code yJ7_copyOf_1904c cJ7_copyOf_1904c 2 (some (.array (.object "java/lang/Object"))), Cond.methodLink RJ7 86 ⟨"java/lang/Object", "getClass", "()Ljava/lang/Class;"⟩, Cond.selects "[Ljava/lang/Object;" ⟨"java/lang/Object", "getClass", "()Ljava/lang/Class;"⟩ ⟨"java/lang/Object", "getClass", "()Ljava/lang/Class;"⟩, Cond.instanceMethod ⟨"java/lang/Object", "getClass", "()Ljava/lang/Class;"⟩, Cond.native ⟨"java/lang/Object", "getClass", "()Ljava/lang/Class;"⟩, Cond.methodLink RJ7 300 yJ7_copyOf_6403c, Cond.static yJ7_copyOf_6403c, Cond.code yJ7_copyOf_6403c cJ7_copyOf_6403c 4 (some (.array (.object "java/lang/Object"))), Cond.classLink RJ7 110 "[Ljava/lang/Object;", Cond.classLink RJ7 2 "java/lang/Object", Cond.methodLink RJ7 304 Lib.Math.min.name]
def wsX4_takePrepare_r5 : List Cond := [Cond.static Lib.Math.min.name, Cond.code Lib.Math.min.name Lib.Math.min.code 2 (some .int), Cond.methodLink RJ7 150 arraycopyName, Cond.native arraycopyName, Cond.static arraycopyName, Cond.initialized "java/lang/System"]
def wsX4_takePrepare : List Cond := .code yX4_takePrepare cX4_takePrepare 3 none :: ((wsX4_takePrepare_r1 ++ (wsX4_takePrepare_r2 ++ (wsX4_takePrepare_r3 ++ (wsX4_takePrepare_r4 ++ wsX4_takePrepare_r5)))) ++ wsX30 ++ wsX00 ++ wsX20 ++ wsX40 ++ wsJx4a65c0)
def wsX4_takePrepared_r1 : List Cond := [Cond.methodLink RX4 280 yX4_openWriteFor, Cond.static yX4_openWriteFor, Cond.initialized RX4, Cond.code yX4_openWriteFor cX4_openWriteFor 3 (some (.object "NoticeStations$OpenWrite")), Cond.instanceMethod yX1_isCollecting, Cond.initialized RX1, Cond.selects RX1 yX1_isCollecting yX1_isCollecting, Cond.code yX1_isCollecting cX1_isCollecting 1 (some .boolean), Cond.fieldLink RX1 21 "NoticeStations$OpenWrite" "next" "LNoticeStations$Standing;", Cond.instanceMethod yX1_isOfGroup, Cond.selects RX1 yX1_isOfGroup yX1_isOfGroup, Cond.code yX1_isOfGroup cX1_isOfGroup 2 (some .boolean), Cond.fieldLink RX1 11 "NoticeStations$OpenWrite" "granted" "[LNoticeStations$Standing;", Cond.methodLink RX4 135 yX4_commitIfAllPrepared, Cond.instanceMethod yX4_commitIfAllPrepared, Cond.selects RX4 yX4_commitIfAllPrepared yX4_commitIfAllPrepared, Cond.code yX4_commitIfAllPrepared cX4_commitIfAllPrepared 4 none, Cond.instanceMethod yX1_awaited, Cond.selects RX1 yX1_awaited yX1_awaited, Cond.code yX1_awaited cX1_awaited 3 (some .int), Cond.methodLink RX1 40 yX1_awaits, Cond.instanceMethod yX1_awaits, Cond.selects RX1 yX1_awaits yX1_awaits, Cond.code yX1_awaits cX1_awaits 2 (some .boolean)]
def wsX4_takePrepared_r2 : List Cond := [Cond.fieldLink RX1 17 "NoticeStations$OpenWrite" "prepared" "[Z", Cond.methodLink RX1 32 yX1_isCollecting, Cond.methodLink RX1 36 yX1_isOfGroup, Cond.instanceMethod yX3_forgetWrite, Cond.initialized RX3, Cond.selects RX3 yX3_forgetWrite yX3_forgetWrite, Cond.code yX3_forgetWrite cX3_forgetWrite 1 none, Cond.fieldLink RX3 26 "NoticeStations$Station" "lock" "I", Cond.fieldLink RX3 29 "NoticeStations$Station" "open" "LNoticeStations$OpenWrite;", Cond.methodLink RX4 148 yX4_send, Cond.instanceMethod yX4_send, Cond.selects RX4 yX4_send yX4_send, Cond.code yX4_send cX4_send 6 none, Cond.fieldLink RX4 22 "NoticeStations" "row" "Ljava/util/ArrayList;", Cond.classLink RX4 183 RX0, Cond.instantiable RX0 5, Cond.initialized RX0, Cond.instanceMethod yX0_init, Cond.code yX0_init cX0_init 6 none, Cond.methodLink RX0 1 objectInit, Cond.instanceMethod objectInit, Cond.code objectInit ⟨#[0xb1]⟩ 1 none, Cond.fieldLink RX0 7 "NoticeStations$Letter" "kind" "I", Cond.fieldLink RX0 13 "NoticeStations$Letter" "from" "I"]
def wsX4_takePrepared_r3 : List Cond := [Cond.fieldLink RX0 16 "NoticeStations$Letter" "to" "I", Cond.fieldLink RX0 19 "NoticeStations$Letter" "number" "I", Cond.fieldLink RX0 22 "NoticeStations$Letter" "standing" "LNoticeStations$Standing;", Cond.methodLink RX4 213 yJx4a65c_add_9ea2d, Cond.instanceMethod yJx4a65c_add_9ea2d, Cond.selects RJx4a65c yJx4a65c_add_9ea2d yJx4a65c_add_9ea2d, Cond.initialized RJx4a65c, Cond.code yJx4a65c_add_9ea2d cJx4a65c_add_9ea2d 2 (some .boolean), Cond.fieldLink RJx4a65c 63 "java/util/ArrayList" "modCount" "I", Cond.sameField "java/util/ArrayList" "java/util/AbstractList" "modCount" "I", Cond.fieldLink RJx4a65c 9 "java/util/ArrayList" "elementData" "[Ljava/lang/Object;", Cond.fieldLink RJx4a65c 48 "java/util/ArrayList" "size" "I", Cond.methodLink RJx4a65c 131 yJx4a65c_add_72be8, Cond.instanceMethod yJx4a65c_add_72be8, Cond.selects RJx4a65c yJx4a65c_add_72be8 yJx4a65c_add_72be8, Cond.code yJx4a65c_add_72be8 cJx4a65c_add_72be8 4 none, Cond.methodLink RJx4a65c 129 yJx4a65c_grow_d5877, Cond.instanceMethod yJx4a65c_grow_d5877, Cond.selects RJx4a65c yJx4a65c_grow_d5877 yJx4a65c_grow_d5877, Cond.code yJx4a65c_grow_d5877 cJx4a65c_grow_d5877 1 (some (.array (.object "java/lang/Object"))), Cond.methodLink RJx4a65c 69 yJx4a65c_grow_92f84, Cond.instanceMethod yJx4a65c_grow_92f84, Cond.selects RJx4a65c yJx4a65c_grow_92f84 yJx4a65c_grow_92f84, Cond.code yJx4a65c_grow_92f84 cJx4a65c_grow_92f84 4 (some (.array (.object "java/lang/Object")))]
def wsX4_takePrepared_r4 : List Cond := [Cond.fieldLink RJx4a65c 39 "java/util/ArrayList" "DEFAULTCAPACITY_EMPTY_ELEMENTDATA" "[Ljava/lang/Object;", Cond.methodLink RJx4a65c 79 Lib.Math.max.name, Cond.static Lib.Math.max.name, Cond.initialized "java/lang/Math", Cond.code Lib.Math.max.name Lib.Math.max.code 2 (some .int), Cond.classLink RJx4a65c 7 "java/lang/Object", Cond.methodLink RJx4a65c 73 yJ8_newLength_cabcc, Cond.static yJ8_newLength_cabcc, Cond.initialized RJ8, Cond.code yJ8_newLength_cabcc cJ8_newLength_cabcc 4 (some .int), Cond.methodLink RJ8 194 Lib.Math.max.name, Cond.constant RJ8 200 (2147483639), Cond.methodLink RJ8 201 yJ8_hugeLength_7cf53, Cond.static yJ8_hugeLength_7cf53, Cond.code yJ8_hugeLength_7cf53 cJ8_hugeLength_7cf53 3 (some .int), Cond.methodLink RJx4a65c 66 yJ7_copyOf_1904c, Cond.static yJ7_copyOf_1904c, Cond.initialized RJ7, Cond.code yJ7_copyOf_1904c cJ7_copyOf_1904c 2 (some (.array (.object "java/lang/Object"))), Cond.methodLink RJ7 86 ⟨"java/lang/Object", "getClass", "()Ljava/lang/Class;"⟩, Cond.selects "[Ljava/lang/Object;" ⟨"java/lang/Object", "getClass", "()Ljava/lang/Class;"⟩ ⟨"java/lang/Object", "getClass", "()Ljava/lang/Class;"⟩, Cond.instanceMethod ⟨"java/lang/Object", "getClass", "()Ljava/lang/Class;"⟩, Cond.native ⟨"java/lang/Object", "getClass", "()Ljava/lang/Class;"⟩, Cond.methodLink RJ7 300 yJ7_copyOf_6403c]
def wsX4_takePrepared_r5 : List Cond := [Cond.static yJ7_copyOf_6403c, Cond.code yJ7_copyOf_6403c cJ7_copyOf_6403c 4 (some (.array (.object "java/lang/Object"))), Cond.classLink RJ7 110 "[Ljava/lang/Object;", Cond.classLink RJ7 2 "java/lang/Object", Cond.methodLink RJ7 304 Lib.Math.min.name, Cond.static Lib.Math.min.name, Cond.code Lib.Math.min.name Lib.Math.min.code 2 (some .int), Cond.methodLink RJ7 150 arraycopyName, Cond.native arraycopyName, Cond.static arraycopyName, Cond.initialized "java/lang/System"]
def wsX4_takePrepared : List Cond := .code yX4_takePrepared cX4_takePrepared 4 none :: ((wsX4_takePrepared_r1 ++ (wsX4_takePrepared_r2 ++ (wsX4_takePrepared_r3 ++ (wsX4_takePrepared_r4 ++ wsX4_takePrepared_r5)))) ++ wsX00 ++ wsX10 ++ wsX30 ++ wsX40 ++ wsJx4a65c0)
def wsX4_takeCommit : List Cond := .code yX4_takeCommit cX4_takeCommit 3 none :: ([.instanceMethod yX3_isPreparedFor, .initialized RX3, .selects RX3 yX3_isPreparedFor yX3_isPreparedFor, .code yX3_isPreparedFor cX3_isPreparedFor 2 (some .boolean), .fieldLink RX3 19 "NoticeStations$Station" "preparedNumber" "I", .methodLink RX3 39 yX3_isInDoubt, .instanceMethod yX3_isInDoubt, .selects RX3 yX3_isInDoubt yX3_isInDoubt, .code yX3_isInDoubt cX3_isInDoubt 1 (some .boolean), .fieldLink RX3 22 "NoticeStations$Station" "preparedStanding" "LNoticeStations$Standing;", .instanceMethod yX3_endDoubt, .selects RX3 yX3_endDoubt yX3_endDoubt, .code yX3_endDoubt cX3_endDoubt 1 none] ++ wsX00 ++ wsX30)
def wsX4_takeAbort : List Cond := .code yX4_takeAbort cX4_takeAbort 3 none :: ([.instanceMethod yX3_isPreparedFor, .initialized RX3, .selects RX3 yX3_isPreparedFor yX3_isPreparedFor, .code yX3_isPreparedFor cX3_isPreparedFor 2 (some .boolean), .fieldLink RX3 19 "NoticeStations$Station" "preparedNumber" "I", .methodLink RX3 39 yX3_isInDoubt, .instanceMethod yX3_isInDoubt, .selects RX3 yX3_isInDoubt yX3_isInDoubt, .code yX3_isInDoubt cX3_isInDoubt 1 (some .boolean), .fieldLink RX3 22 "NoticeStations$Station" "preparedStanding" "LNoticeStations$Standing;", .instanceMethod yX3_endDoubt, .selects RX3 yX3_endDoubt yX3_endDoubt, .code yX3_endDoubt cX3_endDoubt 1 none] ++ wsX00 ++ wsX30)
def wsX4_takeAsk_r1 : List Cond := [Cond.instanceMethod yX2_hasNumber, Cond.initialized RX2, Cond.selects RX2 yX2_hasNumber yX2_hasNumber, Cond.code yX2_hasNumber cX2_hasNumber 3 (some .boolean), Cond.fieldLink RX2 13 "NoticeStations$Standing" "numbers" "[I", Cond.methodLink RX4 305 yX4_sendBack, Cond.instanceMethod yX4_sendBack, Cond.selects RX4 yX4_sendBack yX4_sendBack, Cond.initialized RX4, Cond.code yX4_sendBack cX4_sendBack 4 none, Cond.methodLink RX4 148 yX4_send, Cond.instanceMethod yX4_send, Cond.selects RX4 yX4_send yX4_send, Cond.code yX4_send cX4_send 6 none, Cond.fieldLink RX4 22 "NoticeStations" "row" "Ljava/util/ArrayList;", Cond.classLink RX4 183 RX0, Cond.instantiable RX0 5, Cond.initialized RX0, Cond.instanceMethod yX0_init, Cond.code yX0_init cX0_init 6 none, Cond.methodLink RX0 1 objectInit, Cond.instanceMethod objectInit, Cond.code objectInit ⟨#[0xb1]⟩ 1 none, Cond.fieldLink RX0 7 "NoticeStations$Letter" "kind" "I"]
def wsX4_takeAsk_r2 : List Cond := [Cond.fieldLink RX0 13 "NoticeStations$Letter" "from" "I", Cond.fieldLink RX0 16 "NoticeStations$Letter" "to" "I", Cond.fieldLink RX0 19 "NoticeStations$Letter" "number" "I", Cond.fieldLink RX0 22 "NoticeStations$Letter" "standing" "LNoticeStations$Standing;", Cond.methodLink RX4 213 yJx4a65c_add_9ea2d, Cond.instanceMethod yJx4a65c_add_9ea2d, Cond.selects RJx4a65c yJx4a65c_add_9ea2d yJx4a65c_add_9ea2d, Cond.initialized RJx4a65c, Cond.code yJx4a65c_add_9ea2d cJx4a65c_add_9ea2d 2 (some .boolean), Cond.fieldLink RJx4a65c 63 "java/util/ArrayList" "modCount" "I", Cond.sameField "java/util/ArrayList" "java/util/AbstractList" "modCount" "I", Cond.fieldLink RJx4a65c 9 "java/util/ArrayList" "elementData" "[Ljava/lang/Object;", Cond.fieldLink RJx4a65c 48 "java/util/ArrayList" "size" "I", Cond.methodLink RJx4a65c 131 yJx4a65c_add_72be8, Cond.instanceMethod yJx4a65c_add_72be8, Cond.selects RJx4a65c yJx4a65c_add_72be8 yJx4a65c_add_72be8, Cond.code yJx4a65c_add_72be8 cJx4a65c_add_72be8 4 none, Cond.methodLink RJx4a65c 129 yJx4a65c_grow_d5877, Cond.instanceMethod yJx4a65c_grow_d5877, Cond.selects RJx4a65c yJx4a65c_grow_d5877 yJx4a65c_grow_d5877, Cond.code yJx4a65c_grow_d5877 cJx4a65c_grow_d5877 1 (some (.array (.object "java/lang/Object"))), Cond.methodLink RJx4a65c 69 yJx4a65c_grow_92f84, Cond.instanceMethod yJx4a65c_grow_92f84, Cond.selects RJx4a65c yJx4a65c_grow_92f84 yJx4a65c_grow_92f84]
def wsX4_takeAsk_r3 : List Cond := [Cond.code yJx4a65c_grow_92f84 cJx4a65c_grow_92f84 4 (some (.array (.object "java/lang/Object"))), Cond.fieldLink RJx4a65c 39 "java/util/ArrayList" "DEFAULTCAPACITY_EMPTY_ELEMENTDATA" "[Ljava/lang/Object;", Cond.methodLink RJx4a65c 79 Lib.Math.max.name, Cond.static Lib.Math.max.name, Cond.initialized "java/lang/Math", Cond.code Lib.Math.max.name Lib.Math.max.code 2 (some .int), Cond.classLink RJx4a65c 7 "java/lang/Object", Cond.methodLink RJx4a65c 73 yJ8_newLength_cabcc, Cond.static yJ8_newLength_cabcc, Cond.initialized RJ8, Cond.code yJ8_newLength_cabcc cJ8_newLength_cabcc 4 (some .int), Cond.methodLink RJ8 194 Lib.Math.max.name, Cond.constant RJ8 200 (2147483639), Cond.methodLink RJ8 201 yJ8_hugeLength_7cf53, Cond.static yJ8_hugeLength_7cf53, Cond.code yJ8_hugeLength_7cf53 cJ8_hugeLength_7cf53 3 (some .int), Cond.methodLink RJx4a65c 66 yJ7_copyOf_1904c, Cond.static yJ7_copyOf_1904c, Cond.initialized RJ7, Cond.code yJ7_copyOf_1904c cJ7_copyOf_1904c 2 (some (.array (.object "java/lang/Object"))), Cond.methodLink RJ7 86 ⟨"java/lang/Object", "getClass", "()Ljava/lang/Class;"⟩, Cond.selects "[Ljava/lang/Object;" ⟨"java/lang/Object", "getClass", "()Ljava/lang/Class;"⟩ ⟨"java/lang/Object", "getClass", "()Ljava/lang/Class;"⟩, Cond.instanceMethod ⟨"java/lang/Object", "getClass", "()Ljava/lang/Class;"⟩, Cond.native ⟨"java/lang/Object", "getClass", "()Ljava/lang/Class;"⟩]
def wsX4_takeAsk_r4 : List Cond := [Cond.methodLink RJ7 300 yJ7_copyOf_6403c, Cond.static yJ7_copyOf_6403c, Cond.code yJ7_copyOf_6403c cJ7_copyOf_6403c 4 (some (.array (.object "java/lang/Object"))), Cond.classLink RJ7 110 "[Ljava/lang/Object;", Cond.classLink RJ7 2 "java/lang/Object", Cond.methodLink RJ7 304 Lib.Math.min.name, Cond.static Lib.Math.min.name, Cond.code Lib.Math.min.name Lib.Math.min.code 2 (some .int), Cond.methodLink RJ7 150 arraycopyName, Cond.native arraycopyName, Cond.static arraycopyName, Cond.initialized "java/lang/System", Cond.instanceMethod yX3_hasEndedWrite, Cond.initialized RX3, Cond.selects RX3 yX3_hasEndedWrite yX3_hasEndedWrite, Cond.code yX3_hasEndedWrite cX3_hasEndedWrite 2 (some .boolean), Cond.fieldLink RX3 33 "NoticeStations$Station" "own" "I", Cond.fieldLink RX3 29 "NoticeStations$Station" "open" "LNoticeStations$OpenWrite;", Cond.instanceMethod yX2_length, Cond.selects RX2 yX2_length yX2_length, Cond.code yX2_length cX2_length 1 (some .int), Cond.fieldLink RX2 7 "NoticeStations$Standing" "entries" "[I", Cond.instanceMethod yX0_bookLength, Cond.selects RX0 yX0_bookLength yX0_bookLength]
def wsX4_takeAsk_r5 : List Cond := [Cond.code yX0_bookLength cX0_bookLength 1 (some .int)]
def wsX4_takeAsk : List Cond := .code yX4_takeAsk cX4_takeAsk 3 none :: ((wsX4_takeAsk_r1 ++ (wsX4_takeAsk_r2 ++ (wsX4_takeAsk_r3 ++ (wsX4_takeAsk_r4 ++ wsX4_takeAsk_r5)))) ++ wsX30 ++ wsX00 ++ wsX20 ++ wsX40 ++ wsJx4a65c0 ++ wsX10)
def wsX4_take_r1 : List Cond := [Cond.methodLink RX4 284 yX4_takeLock, Cond.instanceMethod yX4_takeLock, Cond.selects RX4 yX4_takeLock yX4_takeLock, Cond.initialized RX4, Cond.code yX4_takeLock cX4_takeLock 3 none, Cond.instanceMethod yX3_isFree, Cond.initialized RX3, Cond.selects RX3 yX3_isFree yX3_isFree, Cond.code yX3_isFree cX3_isFree 1 (some .boolean), Cond.fieldLink RX3 9 "NoticeStations$Station" "up" "Z", Cond.fieldLink RX3 26 "NoticeStations$Station" "lock" "I", Cond.methodLink RX3 39 yX3_isInDoubt, Cond.instanceMethod yX3_isInDoubt, Cond.selects RX3 yX3_isInDoubt yX3_isInDoubt, Cond.code yX3_isInDoubt cX3_isInDoubt 1 (some .boolean), Cond.fieldLink RX3 22 "NoticeStations$Station" "preparedStanding" "LNoticeStations$Standing;", Cond.methodLink RX4 305 yX4_sendBack, Cond.instanceMethod yX4_sendBack, Cond.selects RX4 yX4_sendBack yX4_sendBack, Cond.code yX4_sendBack cX4_sendBack 4 none, Cond.methodLink RX4 148 yX4_send, Cond.instanceMethod yX4_send, Cond.selects RX4 yX4_send yX4_send, Cond.code yX4_send cX4_send 6 none]
def wsX4_take_r2 : List Cond := [Cond.fieldLink RX4 22 "NoticeStations" "row" "Ljava/util/ArrayList;", Cond.classLink RX4 183 RX0, Cond.instantiable RX0 5, Cond.initialized RX0, Cond.instanceMethod yX0_init, Cond.code yX0_init cX0_init 6 none, Cond.methodLink RX0 1 objectInit, Cond.instanceMethod objectInit, Cond.code objectInit ⟨#[0xb1]⟩ 1 none, Cond.fieldLink RX0 7 "NoticeStations$Letter" "kind" "I", Cond.fieldLink RX0 13 "NoticeStations$Letter" "from" "I", Cond.fieldLink RX0 16 "NoticeStations$Letter" "to" "I", Cond.fieldLink RX0 19 "NoticeStations$Letter" "number" "I", Cond.fieldLink RX0 22 "NoticeStations$Letter" "standing" "LNoticeStations$Standing;", Cond.methodLink RX4 213 yJx4a65c_add_9ea2d, Cond.instanceMethod yJx4a65c_add_9ea2d, Cond.selects RJx4a65c yJx4a65c_add_9ea2d yJx4a65c_add_9ea2d, Cond.initialized RJx4a65c, Cond.code yJx4a65c_add_9ea2d cJx4a65c_add_9ea2d 2 (some .boolean), Cond.fieldLink RJx4a65c 63 "java/util/ArrayList" "modCount" "I", Cond.sameField "java/util/ArrayList" "java/util/AbstractList" "modCount" "I", Cond.fieldLink RJx4a65c 9 "java/util/ArrayList" "elementData" "[Ljava/lang/Object;", Cond.fieldLink RJx4a65c 48 "java/util/ArrayList" "size" "I", Cond.methodLink RJx4a65c 131 yJx4a65c_add_72be8]
def wsX4_take_r3 : List Cond := [Cond.instanceMethod yJx4a65c_add_72be8, Cond.selects RJx4a65c yJx4a65c_add_72be8 yJx4a65c_add_72be8, Cond.code yJx4a65c_add_72be8 cJx4a65c_add_72be8 4 none, Cond.methodLink RJx4a65c 129 yJx4a65c_grow_d5877, Cond.instanceMethod yJx4a65c_grow_d5877, Cond.selects RJx4a65c yJx4a65c_grow_d5877 yJx4a65c_grow_d5877, Cond.code yJx4a65c_grow_d5877 cJx4a65c_grow_d5877 1 (some (.array (.object "java/lang/Object"))), Cond.methodLink RJx4a65c 69 yJx4a65c_grow_92f84, Cond.instanceMethod yJx4a65c_grow_92f84, Cond.selects RJx4a65c yJx4a65c_grow_92f84 yJx4a65c_grow_92f84, Cond.code yJx4a65c_grow_92f84 cJx4a65c_grow_92f84 4 (some (.array (.object "java/lang/Object"))), Cond.fieldLink RJx4a65c 39 "java/util/ArrayList" "DEFAULTCAPACITY_EMPTY_ELEMENTDATA" "[Ljava/lang/Object;", Cond.methodLink RJx4a65c 79 Lib.Math.max.name, Cond.static Lib.Math.max.name, Cond.initialized "java/lang/Math", Cond.code Lib.Math.max.name Lib.Math.max.code 2 (some .int), Cond.classLink RJx4a65c 7 "java/lang/Object", Cond.methodLink RJx4a65c 73 yJ8_newLength_cabcc, Cond.static yJ8_newLength_cabcc, Cond.initialized RJ8, Cond.code yJ8_newLength_cabcc cJ8_newLength_cabcc 4 (some .int), Cond.methodLink RJ8 194 Lib.Math.max.name, Cond.constant RJ8 200 (2147483639), Cond.methodLink RJ8 201 yJ8_hugeLength_7cf53]
def wsX4_take_r4 : List Cond := [Cond.static yJ8_hugeLength_7cf53, Cond.code yJ8_hugeLength_7cf53 cJ8_hugeLength_7cf53 3 (some .int), Cond.methodLink RJx4a65c 66 yJ7_copyOf_1904c, Cond.static yJ7_copyOf_1904c, Cond.initialized RJ7, Cond.code yJ7_copyOf_1904c cJ7_copyOf_1904c 2 (some (.array (.object "java/lang/Object"))), Cond.methodLink RJ7 86 ⟨"java/lang/Object", "getClass", "()Ljava/lang/Class;"⟩, Cond.selects "[Ljava/lang/Object;" ⟨"java/lang/Object", "getClass", "()Ljava/lang/Class;"⟩ ⟨"java/lang/Object", "getClass", "()Ljava/lang/Class;"⟩, Cond.instanceMethod ⟨"java/lang/Object", "getClass", "()Ljava/lang/Class;"⟩, Cond.native ⟨"java/lang/Object", "getClass", "()Ljava/lang/Class;"⟩, Cond.methodLink RJ7 300 yJ7_copyOf_6403c, Cond.static yJ7_copyOf_6403c, Cond.code yJ7_copyOf_6403c cJ7_copyOf_6403c 4 (some (.array (.object "java/lang/Object"))), Cond.classLink RJ7 110 "[Ljava/lang/Object;", Cond.classLink RJ7 2 "java/lang/Object", Cond.methodLink RJ7 304 Lib.Math.min.name, Cond.static Lib.Math.min.name, Cond.code Lib.Math.min.name Lib.Math.min.code 2 (some .int), Cond.methodLink RJ7 150 arraycopyName, Cond.native arraycopyName, Cond.static arraycopyName, Cond.initialized "java/lang/System", Cond.methodLink RX4 287 yX4_takeGrant, Cond.instanceMethod yX4_takeGrant]
def wsX4_take_r5 : List Cond := [Cond.selects RX4 yX4_takeGrant yX4_takeGrant, Cond.code yX4_takeGrant cX4_takeGrant 4 none, Cond.methodLink RX4 280 yX4_openWriteFor, Cond.static yX4_openWriteFor, Cond.code yX4_openWriteFor cX4_openWriteFor 3 (some (.object "NoticeStations$OpenWrite")), Cond.instanceMethod yX1_isCollecting, Cond.initialized RX1, Cond.selects RX1 yX1_isCollecting yX1_isCollecting, Cond.code yX1_isCollecting cX1_isCollecting 1 (some .boolean), Cond.fieldLink RX1 21 "NoticeStations$OpenWrite" "next" "LNoticeStations$Standing;", Cond.methodLink RX4 290 yX4_takePrepare, Cond.instanceMethod yX4_takePrepare, Cond.selects RX4 yX4_takePrepare yX4_takePrepare, Cond.code yX4_takePrepare cX4_takePrepare 3 none, Cond.instanceMethod yX0_goesOnFrom, Cond.selects RX0 yX0_goesOnFrom yX0_goesOnFrom, Cond.code yX0_goesOnFrom cX0_goesOnFrom 2 (some .boolean), Cond.instanceMethod yX2_goesOnFrom, Cond.initialized RX2, Cond.selects RX2 yX2_goesOnFrom yX2_goesOnFrom, Cond.code yX2_goesOnFrom cX2_goesOnFrom 3 (some .boolean), Cond.fieldLink RX2 7 "NoticeStations$Standing" "entries" "[I", Cond.fieldLink RX2 13 "NoticeStations$Standing" "numbers" "[I", Cond.methodLink RX2 33 yX2_length]
def wsX4_take_r6 : List Cond := [Cond.instanceMethod yX2_length, Cond.selects RX2 yX2_length yX2_length, Cond.code yX2_length cX2_length 1 (some .int), Cond.instanceMethod yX3_isPreparedFor, Cond.selects RX3 yX3_isPreparedFor yX3_isPreparedFor, Cond.code yX3_isPreparedFor cX3_isPreparedFor 2 (some .boolean), Cond.fieldLink RX3 19 "NoticeStations$Station" "preparedNumber" "I", Cond.methodLink RX4 293 yX4_takePrepared, Cond.instanceMethod yX4_takePrepared, Cond.selects RX4 yX4_takePrepared yX4_takePrepared, Cond.code yX4_takePrepared cX4_takePrepared 4 none, Cond.instanceMethod yX1_isOfGroup, Cond.selects RX1 yX1_isOfGroup yX1_isOfGroup, Cond.code yX1_isOfGroup cX1_isOfGroup 2 (some .boolean), Cond.fieldLink RX1 11 "NoticeStations$OpenWrite" "granted" "[LNoticeStations$Standing;", Cond.methodLink RX4 135 yX4_commitIfAllPrepared, Cond.instanceMethod yX4_commitIfAllPrepared, Cond.selects RX4 yX4_commitIfAllPrepared yX4_commitIfAllPrepared, Cond.code yX4_commitIfAllPrepared cX4_commitIfAllPrepared 4 none, Cond.instanceMethod yX1_awaited, Cond.selects RX1 yX1_awaited yX1_awaited, Cond.code yX1_awaited cX1_awaited 3 (some .int), Cond.methodLink RX1 40 yX1_awaits, Cond.instanceMethod yX1_awaits]
def wsX4_take_r7 : List Cond := [Cond.selects RX1 yX1_awaits yX1_awaits, Cond.code yX1_awaits cX1_awaits 2 (some .boolean), Cond.fieldLink RX1 17 "NoticeStations$OpenWrite" "prepared" "[Z", Cond.methodLink RX1 32 yX1_isCollecting, Cond.methodLink RX1 36 yX1_isOfGroup, Cond.instanceMethod yX3_forgetWrite, Cond.selects RX3 yX3_forgetWrite yX3_forgetWrite, Cond.code yX3_forgetWrite cX3_forgetWrite 1 none, Cond.fieldLink RX3 29 "NoticeStations$Station" "open" "LNoticeStations$OpenWrite;", Cond.methodLink RX4 296 yX4_takeCommit, Cond.instanceMethod yX4_takeCommit, Cond.selects RX4 yX4_takeCommit yX4_takeCommit, Cond.code yX4_takeCommit cX4_takeCommit 3 none, Cond.instanceMethod yX3_endDoubt, Cond.selects RX3 yX3_endDoubt yX3_endDoubt, Cond.code yX3_endDoubt cX3_endDoubt 1 none, Cond.methodLink RX4 299 yX4_takeAbort, Cond.instanceMethod yX4_takeAbort, Cond.selects RX4 yX4_takeAbort yX4_takeAbort, Cond.code yX4_takeAbort cX4_takeAbort 3 none, Cond.methodLink RX4 302 yX4_takeAsk, Cond.instanceMethod yX4_takeAsk, Cond.selects RX4 yX4_takeAsk yX4_takeAsk, Cond.code yX4_takeAsk cX4_takeAsk 3 none]
def wsX4_take_r8 : List Cond := [Cond.instanceMethod yX2_hasNumber, Cond.selects RX2 yX2_hasNumber yX2_hasNumber, Cond.code yX2_hasNumber cX2_hasNumber 3 (some .boolean), Cond.instanceMethod yX3_hasEndedWrite, Cond.selects RX3 yX3_hasEndedWrite yX3_hasEndedWrite, Cond.code yX3_hasEndedWrite cX3_hasEndedWrite 2 (some .boolean), Cond.fieldLink RX3 33 "NoticeStations$Station" "own" "I", Cond.instanceMethod yX0_bookLength, Cond.selects RX0 yX0_bookLength yX0_bookLength, Cond.code yX0_bookLength cX0_bookLength 1 (some .int)]
def wsX4_take : List Cond := .code yX4_take cX4_take 3 none :: ((wsX4_take_r1 ++ (wsX4_take_r2 ++ (wsX4_take_r3 ++ (wsX4_take_r4 ++ (wsX4_take_r5 ++ (wsX4_take_r6 ++ (wsX4_take_r7 ++ wsX4_take_r8))))))) ++ wsX00 ++ wsX30 ++ wsX40 ++ wsJx4a65c0 ++ wsX10 ++ wsX20)
def wsX4_deliver_r1 : List Cond := [Cond.classLink RX4 91 "java/lang/IllegalStateException", Cond.initialized "java/lang/IllegalStateException", Cond.fieldLink RX4 11 "NoticeStations" "stations" "[LNoticeStations$Station;", Cond.fieldLink RX4 22 "NoticeStations" "row" "Ljava/util/ArrayList;", Cond.methodLink RX4 178 yX4_letterAt, Cond.instanceMethod yX4_letterAt, Cond.selects RX4 yX4_letterAt yX4_letterAt, Cond.initialized RX4, Cond.code yX4_letterAt cX4_letterAt 2 (some (.object "NoticeStations$Letter")), Cond.classLink RX4 183 "NoticeStations$Letter", Cond.methodLink RX4 210 yX4_requireLetter, Cond.instanceMethod yX4_requireLetter, Cond.selects RX4 yX4_requireLetter yX4_requireLetter, Cond.code yX4_requireLetter cX4_requireLetter 2 none, Cond.classLink RX4 247 "java/lang/IndexOutOfBoundsException", Cond.initialized "java/lang/IndexOutOfBoundsException", Cond.methodLink RX4 175 yJx4a65c_size_8abf5, Cond.instanceMethod yJx4a65c_size_8abf5, Cond.selects RJx4a65c yJx4a65c_size_8abf5 yJx4a65c_size_8abf5, Cond.initialized RJx4a65c, Cond.code yJx4a65c_size_8abf5 cJx4a65c_size_8abf5 1 (some .int), Cond.fieldLink RJx4a65c 48 "java/util/ArrayList" "size" "I", Cond.methodLink RX4 46 yX4_isBelow, Cond.static yX4_isBelow]
def wsX4_deliver_r2 : List Cond := [Cond.code yX4_isBelow cX4_isBelow 2 (some .boolean), Cond.methodLink RX4 256 yJx4a65c_get_915e3, Cond.instanceMethod yJx4a65c_get_915e3, Cond.selects RJx4a65c yJx4a65c_get_915e3 yJx4a65c_get_915e3, Cond.code yJx4a65c_get_915e3 cJx4a65c_get_915e3 2 (some (.object "java/lang/Object")), Cond.methodLink RJx4a65c 118 yJ15_checkIndex_7cf53, Cond.static yJ15_checkIndex_7cf53, Cond.initialized RJ15, Cond.code yJ15_checkIndex_7cf53 cJ15_checkIndex_7cf53 2 (some .int), Cond.methodLink RJ15 105 yJ3_checkIndex_8e157, Cond.static yJ3_checkIndex_8e157, Cond.initialized RJ3, Cond.code yJ3_checkIndex_8e157 cJ3_checkIndex_8e157 3 (some .int), Cond.methodLink RJx4a65c 123 yJx4a65c_elementData_915e3, Cond.instanceMethod yJx4a65c_elementData_915e3, Cond.selects RJx4a65c yJx4a65c_elementData_915e3 yJx4a65c_elementData_915e3, Cond.code yJx4a65c_elementData_915e3 cJx4a65c_elementData_915e3 2 (some (.object "java/lang/Object")), Cond.fieldLink RJx4a65c 9 "java/util/ArrayList" "elementData" "[Ljava/lang/Object;", Cond.methodLink RX4 190 yX4_areInOnePiece, Cond.instanceMethod yX4_areInOnePiece, Cond.selects RX4 yX4_areInOnePiece yX4_areInOnePiece, Cond.code yX4_areInOnePiece cX4_areInOnePiece 6 (some .boolean), Cond.fieldLink RX4 15 "NoticeStations" "cables" "[I", Cond.methodLink RX4 195 yX4_answersTo]
def wsX4_deliver_r3 : List Cond := [Cond.static yX4_answersTo, Cond.code yX4_answersTo cX4_answersTo 3 (some .int), Cond.methodLink RX4 280 yX4_openWriteFor, Cond.static yX4_openWriteFor, Cond.code yX4_openWriteFor cX4_openWriteFor 3 (some (.object "NoticeStations$OpenWrite")), Cond.instanceMethod yX1_isCollecting, Cond.initialized RX1, Cond.selects RX1 yX1_isCollecting yX1_isCollecting, Cond.code yX1_isCollecting cX1_isCollecting 1 (some .boolean), Cond.fieldLink RX1 21 "NoticeStations$OpenWrite" "next" "LNoticeStations$Standing;", Cond.instanceMethod yX1_awaits, Cond.selects RX1 yX1_awaits yX1_awaits, Cond.code yX1_awaits cX1_awaits 2 (some .boolean), Cond.fieldLink RX1 11 "NoticeStations$OpenWrite" "granted" "[LNoticeStations$Standing;", Cond.fieldLink RX1 17 "NoticeStations$OpenWrite" "prepared" "[Z", Cond.methodLink RX1 32 yX1_isCollecting, Cond.methodLink RX1 36 yX1_isOfGroup, Cond.instanceMethod yX1_isOfGroup, Cond.selects RX1 yX1_isOfGroup yX1_isOfGroup, Cond.code yX1_isOfGroup cX1_isOfGroup 2 (some .boolean), Cond.instanceMethod yX1_awaited, Cond.selects RX1 yX1_awaited yX1_awaited, Cond.code yX1_awaited cX1_awaited 3 (some .int), Cond.methodLink RX1 40 yX1_awaits]
def wsX4_deliver_r4 : List Cond := [Cond.instanceMethod yX1_groupSize, Cond.selects RX1 yX1_groupSize yX1_groupSize, Cond.code yX1_groupSize cX1_groupSize 3 (some .int), Cond.methodLink RX4 119 yX4_requireRoomFor, Cond.instanceMethod yX4_requireRoomFor, Cond.selects RX4 yX4_requireRoomFor yX4_requireRoomFor, Cond.code yX4_requireRoomFor cX4_requireRoomFor 2 none, Cond.classLink RX4 111 "java/lang/UnsupportedOperationException", Cond.initialized "java/lang/UnsupportedOperationException", Cond.methodLink RX4 199 yJx4a65c_remove_915e3, Cond.instanceMethod yJx4a65c_remove_915e3, Cond.selects RJx4a65c yJx4a65c_remove_915e3 yJx4a65c_remove_915e3, Cond.code yJx4a65c_remove_915e3 cJx4a65c_remove_915e3 4 (some (.object "java/lang/Object")), Cond.methodLink RJx4a65c 144 yJx4a65c_fastRemove_b59b0, Cond.instanceMethod yJx4a65c_fastRemove_b59b0, Cond.selects RJx4a65c yJx4a65c_fastRemove_b59b0 yJx4a65c_fastRemove_b59b0, Cond.code yJx4a65c_fastRemove_b59b0 cJx4a65c_fastRemove_b59b0 4 none, Cond.fieldLink RJx4a65c 63 "java/util/ArrayList" "modCount" "I", Cond.sameField "java/util/ArrayList" "java/util/AbstractList" "modCount" "I", Cond.methodLink RJx4a65c 112 arraycopyName, Cond.native arraycopyName, Cond.static arraycopyName, Cond.initialized "java/lang/System", Cond.methodLink RX4 203 yX4_take]
def wsX4_deliver_r5 : List Cond := [Cond.instanceMethod yX4_take, Cond.selects RX4 yX4_take yX4_take, Cond.code yX4_take cX4_take 3 none, Cond.methodLink RX4 284 yX4_takeLock, Cond.instanceMethod yX4_takeLock, Cond.selects RX4 yX4_takeLock yX4_takeLock, Cond.code yX4_takeLock cX4_takeLock 3 none, Cond.instanceMethod yX3_isFree, Cond.initialized RX3, Cond.selects RX3 yX3_isFree yX3_isFree, Cond.code yX3_isFree cX3_isFree 1 (some .boolean), Cond.fieldLink RX3 9 "NoticeStations$Station" "up" "Z", Cond.fieldLink RX3 26 "NoticeStations$Station" "lock" "I", Cond.methodLink RX3 39 yX3_isInDoubt, Cond.instanceMethod yX3_isInDoubt, Cond.selects RX3 yX3_isInDoubt yX3_isInDoubt, Cond.code yX3_isInDoubt cX3_isInDoubt 1 (some .boolean), Cond.fieldLink RX3 22 "NoticeStations$Station" "preparedStanding" "LNoticeStations$Standing;", Cond.methodLink RX4 305 yX4_sendBack, Cond.instanceMethod yX4_sendBack, Cond.selects RX4 yX4_sendBack yX4_sendBack, Cond.code yX4_sendBack cX4_sendBack 4 none, Cond.methodLink RX4 148 yX4_send, Cond.instanceMethod yX4_send]
def wsX4_deliver_r6 : List Cond := [Cond.selects RX4 yX4_send yX4_send, Cond.code yX4_send cX4_send 6 none, Cond.classLink RX4 183 RX0, Cond.instantiable RX0 5, Cond.initialized RX0, Cond.instanceMethod yX0_init, Cond.code yX0_init cX0_init 6 none, Cond.methodLink RX0 1 objectInit, Cond.instanceMethod objectInit, Cond.code objectInit ⟨#[0xb1]⟩ 1 none, Cond.fieldLink RX0 7 "NoticeStations$Letter" "kind" "I", Cond.fieldLink RX0 13 "NoticeStations$Letter" "from" "I", Cond.fieldLink RX0 16 "NoticeStations$Letter" "to" "I", Cond.fieldLink RX0 19 "NoticeStations$Letter" "number" "I", Cond.fieldLink RX0 22 "NoticeStations$Letter" "standing" "LNoticeStations$Standing;", Cond.methodLink RX4 213 yJx4a65c_add_9ea2d, Cond.instanceMethod yJx4a65c_add_9ea2d, Cond.selects RJx4a65c yJx4a65c_add_9ea2d yJx4a65c_add_9ea2d, Cond.code yJx4a65c_add_9ea2d cJx4a65c_add_9ea2d 2 (some .boolean), Cond.methodLink RJx4a65c 131 yJx4a65c_add_72be8, Cond.instanceMethod yJx4a65c_add_72be8, Cond.selects RJx4a65c yJx4a65c_add_72be8 yJx4a65c_add_72be8, Cond.code yJx4a65c_add_72be8 cJx4a65c_add_72be8 4 none, Cond.methodLink RJx4a65c 129 yJx4a65c_grow_d5877]
def wsX4_deliver_r7 : List Cond := [Cond.instanceMethod yJx4a65c_grow_d5877, Cond.selects RJx4a65c yJx4a65c_grow_d5877 yJx4a65c_grow_d5877, Cond.code yJx4a65c_grow_d5877 cJx4a65c_grow_d5877 1 (some (.array (.object "java/lang/Object"))), Cond.methodLink RJx4a65c 69 yJx4a65c_grow_92f84, Cond.instanceMethod yJx4a65c_grow_92f84, Cond.selects RJx4a65c yJx4a65c_grow_92f84 yJx4a65c_grow_92f84, Cond.code yJx4a65c_grow_92f84 cJx4a65c_grow_92f84 4 (some (.array (.object "java/lang/Object"))), Cond.fieldLink RJx4a65c 39 "java/util/ArrayList" "DEFAULTCAPACITY_EMPTY_ELEMENTDATA" "[Ljava/lang/Object;", Cond.methodLink RJx4a65c 79 Lib.Math.max.name, Cond.static Lib.Math.max.name, Cond.initialized "java/lang/Math", Cond.code Lib.Math.max.name Lib.Math.max.code 2 (some .int), Cond.classLink RJx4a65c 7 "java/lang/Object", Cond.methodLink RJx4a65c 73 yJ8_newLength_cabcc, Cond.static yJ8_newLength_cabcc, Cond.initialized RJ8, Cond.code yJ8_newLength_cabcc cJ8_newLength_cabcc 4 (some .int), Cond.methodLink RJ8 194 Lib.Math.max.name, Cond.constant RJ8 200 (2147483639), Cond.methodLink RJ8 201 yJ8_hugeLength_7cf53, Cond.static yJ8_hugeLength_7cf53, Cond.code yJ8_hugeLength_7cf53 cJ8_hugeLength_7cf53 3 (some .int), Cond.methodLink RJx4a65c 66 yJ7_copyOf_1904c, Cond.static yJ7_copyOf_1904c]
def wsX4_deliver_r8 : List Cond := [Cond.initialized RJ7, Cond.code yJ7_copyOf_1904c cJ7_copyOf_1904c 2 (some (.array (.object "java/lang/Object"))), Cond.methodLink RJ7 86 ⟨"java/lang/Object", "getClass", "()Ljava/lang/Class;"⟩, Cond.selects "[Ljava/lang/Object;" ⟨"java/lang/Object", "getClass", "()Ljava/lang/Class;"⟩ ⟨"java/lang/Object", "getClass", "()Ljava/lang/Class;"⟩, Cond.instanceMethod ⟨"java/lang/Object", "getClass", "()Ljava/lang/Class;"⟩, Cond.native ⟨"java/lang/Object", "getClass", "()Ljava/lang/Class;"⟩, Cond.methodLink RJ7 300 yJ7_copyOf_6403c, Cond.static yJ7_copyOf_6403c, Cond.code yJ7_copyOf_6403c cJ7_copyOf_6403c 4 (some (.array (.object "java/lang/Object"))), Cond.classLink RJ7 110 "[Ljava/lang/Object;", Cond.classLink RJ7 2 "java/lang/Object", Cond.methodLink RJ7 304 Lib.Math.min.name, Cond.static Lib.Math.min.name, Cond.code Lib.Math.min.name Lib.Math.min.code 2 (some .int), Cond.methodLink RJ7 150 arraycopyName, Cond.methodLink RX4 287 yX4_takeGrant, Cond.instanceMethod yX4_takeGrant, Cond.selects RX4 yX4_takeGrant yX4_takeGrant, Cond.code yX4_takeGrant cX4_takeGrant 4 none, Cond.methodLink RX4 290 yX4_takePrepare, Cond.instanceMethod yX4_takePrepare, Cond.selects RX4 yX4_takePrepare yX4_takePrepare, Cond.code yX4_takePrepare cX4_takePrepare 3 none, Cond.instanceMethod yX0_goesOnFrom]
def wsX4_deliver_r9 : List Cond := [Cond.selects RX0 yX0_goesOnFrom yX0_goesOnFrom, Cond.code yX0_goesOnFrom cX0_goesOnFrom 2 (some .boolean), Cond.instanceMethod yX2_goesOnFrom, Cond.initialized RX2, Cond.selects RX2 yX2_goesOnFrom yX2_goesOnFrom, Cond.code yX2_goesOnFrom cX2_goesOnFrom 3 (some .boolean), Cond.fieldLink RX2 7 "NoticeStations$Standing" "entries" "[I", Cond.fieldLink RX2 13 "NoticeStations$Standing" "numbers" "[I", Cond.methodLink RX2 33 yX2_length, Cond.instanceMethod yX2_length, Cond.selects RX2 yX2_length yX2_length, Cond.code yX2_length cX2_length 1 (some .int), Cond.instanceMethod yX3_isPreparedFor, Cond.selects RX3 yX3_isPreparedFor yX3_isPreparedFor, Cond.code yX3_isPreparedFor cX3_isPreparedFor 2 (some .boolean), Cond.fieldLink RX3 19 "NoticeStations$Station" "preparedNumber" "I", Cond.methodLink RX4 293 yX4_takePrepared, Cond.instanceMethod yX4_takePrepared, Cond.selects RX4 yX4_takePrepared yX4_takePrepared, Cond.code yX4_takePrepared cX4_takePrepared 4 none, Cond.methodLink RX4 135 yX4_commitIfAllPrepared, Cond.instanceMethod yX4_commitIfAllPrepared, Cond.selects RX4 yX4_commitIfAllPrepared yX4_commitIfAllPrepared, Cond.code yX4_commitIfAllPrepared cX4_commitIfAllPrepared 4 none]
def wsX4_deliver_r10 : List Cond := [Cond.instanceMethod yX3_forgetWrite, Cond.selects RX3 yX3_forgetWrite yX3_forgetWrite, Cond.code yX3_forgetWrite cX3_forgetWrite 1 none, Cond.fieldLink RX3 29 "NoticeStations$Station" "open" "LNoticeStations$OpenWrite;", Cond.methodLink RX4 296 yX4_takeCommit, Cond.instanceMethod yX4_takeCommit, Cond.selects RX4 yX4_takeCommit yX4_takeCommit, Cond.code yX4_takeCommit cX4_takeCommit 3 none, Cond.instanceMethod yX3_endDoubt, Cond.selects RX3 yX3_endDoubt yX3_endDoubt, Cond.code yX3_endDoubt cX3_endDoubt 1 none, Cond.methodLink RX4 299 yX4_takeAbort, Cond.instanceMethod yX4_takeAbort, Cond.selects RX4 yX4_takeAbort yX4_takeAbort, Cond.code yX4_takeAbort cX4_takeAbort 3 none, Cond.methodLink RX4 302 yX4_takeAsk, Cond.instanceMethod yX4_takeAsk, Cond.selects RX4 yX4_takeAsk yX4_takeAsk, Cond.code yX4_takeAsk cX4_takeAsk 3 none, Cond.instanceMethod yX2_hasNumber, Cond.selects RX2 yX2_hasNumber yX2_hasNumber, Cond.code yX2_hasNumber cX2_hasNumber 3 (some .boolean), Cond.instanceMethod yX3_hasEndedWrite, Cond.selects RX3 yX3_hasEndedWrite yX3_hasEndedWrite]
def wsX4_deliver_r11 : List Cond := [Cond.code yX3_hasEndedWrite cX3_hasEndedWrite 2 (some .boolean), Cond.fieldLink RX3 33 "NoticeStations$Station" "own" "I", Cond.instanceMethod yX0_bookLength, Cond.selects RX0 yX0_bookLength yX0_bookLength, Cond.code yX0_bookLength cX0_bookLength 1 (some .int)]
def wsX4_deliver : List Cond := .code yX4_deliver cX4_deliver 4 (some .int) :: ((wsX4_deliver_r1 ++ (wsX4_deliver_r2 ++ (wsX4_deliver_r3 ++ (wsX4_deliver_r4 ++ (wsX4_deliver_r5 ++ (wsX4_deliver_r6 ++ (wsX4_deliver_r7 ++ (wsX4_deliver_r8 ++ (wsX4_deliver_r9 ++ (wsX4_deliver_r10 ++ wsX4_deliver_r11)))))))))) ++ wsX40 ++ wsX00 ++ wsX30 ++ wsJx4a65c0 ++ wsX10 ++ wsX20 ++ (vx_atS RX4 95 "java/lang/IllegalStateException" ["java/lang/RuntimeException", "java/lang/Exception"]).filter goodWord ++ (vx_atS RX4 251 "java/lang/IndexOutOfBoundsException" ["java/lang/RuntimeException", "java/lang/Exception"]).filter goodWord ++ (vx_atS RX4 115 "java/lang/UnsupportedOperationException" ["java/lang/RuntimeException", "java/lang/Exception"]).filter goodWord)
def wsX4_lose_r1 : List Cond := [Cond.fieldLink RX4 22 "NoticeStations" "row" "Ljava/util/ArrayList;", Cond.methodLink RX4 210 yX4_requireLetter, Cond.instanceMethod yX4_requireLetter, Cond.selects RX4 yX4_requireLetter yX4_requireLetter, Cond.initialized RX4, Cond.code yX4_requireLetter cX4_requireLetter 2 none, Cond.classLink RX4 247 "java/lang/IndexOutOfBoundsException", Cond.initialized "java/lang/IndexOutOfBoundsException", Cond.methodLink RX4 175 yJx4a65c_size_8abf5, Cond.instanceMethod yJx4a65c_size_8abf5, Cond.selects RJx4a65c yJx4a65c_size_8abf5 yJx4a65c_size_8abf5, Cond.initialized RJx4a65c, Cond.code yJx4a65c_size_8abf5 cJx4a65c_size_8abf5 1 (some .int), Cond.fieldLink RJx4a65c 48 "java/util/ArrayList" "size" "I", Cond.methodLink RX4 46 yX4_isBelow, Cond.static yX4_isBelow, Cond.code yX4_isBelow cX4_isBelow 2 (some .boolean), Cond.methodLink RX4 199 yJx4a65c_remove_915e3, Cond.instanceMethod yJx4a65c_remove_915e3, Cond.selects RJx4a65c yJx4a65c_remove_915e3 yJx4a65c_remove_915e3, Cond.code yJx4a65c_remove_915e3 cJx4a65c_remove_915e3 4 (some (.object "java/lang/Object")), Cond.fieldLink RJx4a65c 9 "java/util/ArrayList" "elementData" "[Ljava/lang/Object;", Cond.methodLink RJx4a65c 118 yJ15_checkIndex_7cf53, Cond.static yJ15_checkIndex_7cf53]
def wsX4_lose_r2 : List Cond := [Cond.initialized RJ15, Cond.code yJ15_checkIndex_7cf53 cJ15_checkIndex_7cf53 2 (some .int), Cond.methodLink RJ15 105 yJ3_checkIndex_8e157, Cond.static yJ3_checkIndex_8e157, Cond.initialized RJ3, Cond.code yJ3_checkIndex_8e157 cJ3_checkIndex_8e157 3 (some .int), Cond.methodLink RJx4a65c 144 yJx4a65c_fastRemove_b59b0, Cond.instanceMethod yJx4a65c_fastRemove_b59b0, Cond.selects RJx4a65c yJx4a65c_fastRemove_b59b0 yJx4a65c_fastRemove_b59b0, Cond.code yJx4a65c_fastRemove_b59b0 cJx4a65c_fastRemove_b59b0 4 none, Cond.fieldLink RJx4a65c 63 "java/util/ArrayList" "modCount" "I", Cond.sameField "java/util/ArrayList" "java/util/AbstractList" "modCount" "I", Cond.methodLink RJx4a65c 112 arraycopyName, Cond.native arraycopyName, Cond.static arraycopyName, Cond.initialized "java/lang/System"]
def wsX4_lose : List Cond := .code yX4_lose cX4_lose 2 none :: ((wsX4_lose_r1 ++ wsX4_lose_r2) ++ wsX40 ++ wsJx4a65c0 ++ (vx_atS RX4 251 "java/lang/IndexOutOfBoundsException" ["java/lang/RuntimeException", "java/lang/Exception"]).filter goodWord)
def wsX4_twin_r1 : List Cond := [Cond.fieldLink RX4 22 "NoticeStations" "row" "Ljava/util/ArrayList;", Cond.methodLink RX4 178 yX4_letterAt, Cond.instanceMethod yX4_letterAt, Cond.selects RX4 yX4_letterAt yX4_letterAt, Cond.initialized RX4, Cond.code yX4_letterAt cX4_letterAt 2 (some (.object "NoticeStations$Letter")), Cond.classLink RX4 183 "NoticeStations$Letter", Cond.methodLink RX4 210 yX4_requireLetter, Cond.instanceMethod yX4_requireLetter, Cond.selects RX4 yX4_requireLetter yX4_requireLetter, Cond.code yX4_requireLetter cX4_requireLetter 2 none, Cond.classLink RX4 247 "java/lang/IndexOutOfBoundsException", Cond.initialized "java/lang/IndexOutOfBoundsException", Cond.methodLink RX4 175 yJx4a65c_size_8abf5, Cond.instanceMethod yJx4a65c_size_8abf5, Cond.selects RJx4a65c yJx4a65c_size_8abf5 yJx4a65c_size_8abf5, Cond.initialized RJx4a65c, Cond.code yJx4a65c_size_8abf5 cJx4a65c_size_8abf5 1 (some .int), Cond.fieldLink RJx4a65c 48 "java/util/ArrayList" "size" "I", Cond.methodLink RX4 46 yX4_isBelow, Cond.static yX4_isBelow, Cond.code yX4_isBelow cX4_isBelow 2 (some .boolean), Cond.methodLink RX4 256 yJx4a65c_get_915e3, Cond.instanceMethod yJx4a65c_get_915e3]
def wsX4_twin_r2 : List Cond := [Cond.selects RJx4a65c yJx4a65c_get_915e3 yJx4a65c_get_915e3, Cond.code yJx4a65c_get_915e3 cJx4a65c_get_915e3 2 (some (.object "java/lang/Object")), Cond.methodLink RJx4a65c 118 yJ15_checkIndex_7cf53, Cond.static yJ15_checkIndex_7cf53, Cond.initialized RJ15, Cond.code yJ15_checkIndex_7cf53 cJ15_checkIndex_7cf53 2 (some .int), Cond.methodLink RJ15 105 yJ3_checkIndex_8e157, Cond.static yJ3_checkIndex_8e157, Cond.initialized RJ3, Cond.code yJ3_checkIndex_8e157 cJ3_checkIndex_8e157 3 (some .int), Cond.methodLink RJx4a65c 123 yJx4a65c_elementData_915e3, Cond.instanceMethod yJx4a65c_elementData_915e3, Cond.selects RJx4a65c yJx4a65c_elementData_915e3 yJx4a65c_elementData_915e3, Cond.code yJx4a65c_elementData_915e3 cJx4a65c_elementData_915e3 2 (some (.object "java/lang/Object")), Cond.fieldLink RJx4a65c 9 "java/util/ArrayList" "elementData" "[Ljava/lang/Object;", Cond.methodLink RX4 119 yX4_requireRoomFor, Cond.instanceMethod yX4_requireRoomFor, Cond.selects RX4 yX4_requireRoomFor yX4_requireRoomFor, Cond.code yX4_requireRoomFor cX4_requireRoomFor 2 none, Cond.classLink RX4 111 "java/lang/UnsupportedOperationException", Cond.initialized "java/lang/UnsupportedOperationException", Cond.methodLink RX4 213 yJx4a65c_add_9ea2d, Cond.instanceMethod yJx4a65c_add_9ea2d, Cond.selects RJx4a65c yJx4a65c_add_9ea2d yJx4a65c_add_9ea2d]
def wsX4_twin_r3 : List Cond := [Cond.code yJx4a65c_add_9ea2d cJx4a65c_add_9ea2d 2 (some .boolean), Cond.fieldLink RJx4a65c 63 "java/util/ArrayList" "modCount" "I", Cond.sameField "java/util/ArrayList" "java/util/AbstractList" "modCount" "I", Cond.methodLink RJx4a65c 131 yJx4a65c_add_72be8, Cond.instanceMethod yJx4a65c_add_72be8, Cond.selects RJx4a65c yJx4a65c_add_72be8 yJx4a65c_add_72be8, Cond.code yJx4a65c_add_72be8 cJx4a65c_add_72be8 4 none, Cond.methodLink RJx4a65c 129 yJx4a65c_grow_d5877, Cond.instanceMethod yJx4a65c_grow_d5877, Cond.selects RJx4a65c yJx4a65c_grow_d5877 yJx4a65c_grow_d5877, Cond.code yJx4a65c_grow_d5877 cJx4a65c_grow_d5877 1 (some (.array (.object "java/lang/Object"))), Cond.methodLink RJx4a65c 69 yJx4a65c_grow_92f84, Cond.instanceMethod yJx4a65c_grow_92f84, Cond.selects RJx4a65c yJx4a65c_grow_92f84 yJx4a65c_grow_92f84, Cond.code yJx4a65c_grow_92f84 cJx4a65c_grow_92f84 4 (some (.array (.object "java/lang/Object"))), Cond.fieldLink RJx4a65c 39 "java/util/ArrayList" "DEFAULTCAPACITY_EMPTY_ELEMENTDATA" "[Ljava/lang/Object;", Cond.methodLink RJx4a65c 79 Lib.Math.max.name, Cond.static Lib.Math.max.name, Cond.initialized "java/lang/Math", Cond.code Lib.Math.max.name Lib.Math.max.code 2 (some .int), Cond.classLink RJx4a65c 7 "java/lang/Object", Cond.methodLink RJx4a65c 73 yJ8_newLength_cabcc, Cond.static yJ8_newLength_cabcc, Cond.initialized RJ8]
def wsX4_twin_r4 : List Cond := [Cond.code yJ8_newLength_cabcc cJ8_newLength_cabcc 4 (some .int), Cond.methodLink RJ8 194 Lib.Math.max.name, Cond.constant RJ8 200 (2147483639), Cond.methodLink RJ8 201 yJ8_hugeLength_7cf53, Cond.static yJ8_hugeLength_7cf53, Cond.code yJ8_hugeLength_7cf53 cJ8_hugeLength_7cf53 3 (some .int), Cond.methodLink RJx4a65c 66 yJ7_copyOf_1904c, Cond.static yJ7_copyOf_1904c, Cond.initialized RJ7, Cond.code yJ7_copyOf_1904c cJ7_copyOf_1904c 2 (some (.array (.object "java/lang/Object"))), Cond.methodLink RJ7 86 ⟨"java/lang/Object", "getClass", "()Ljava/lang/Class;"⟩, Cond.selects "[Ljava/lang/Object;" ⟨"java/lang/Object", "getClass", "()Ljava/lang/Class;"⟩ ⟨"java/lang/Object", "getClass", "()Ljava/lang/Class;"⟩, Cond.instanceMethod ⟨"java/lang/Object", "getClass", "()Ljava/lang/Class;"⟩, Cond.native ⟨"java/lang/Object", "getClass", "()Ljava/lang/Class;"⟩, Cond.methodLink RJ7 300 yJ7_copyOf_6403c, Cond.static yJ7_copyOf_6403c, Cond.code yJ7_copyOf_6403c cJ7_copyOf_6403c 4 (some (.array (.object "java/lang/Object"))), Cond.classLink RJ7 110 "[Ljava/lang/Object;", Cond.classLink RJ7 2 "java/lang/Object", Cond.methodLink RJ7 304 Lib.Math.min.name, Cond.static Lib.Math.min.name, Cond.code Lib.Math.min.name Lib.Math.min.code 2 (some .int), Cond.methodLink RJ7 150 arraycopyName, Cond.native arraycopyName]
def wsX4_twin_r5 : List Cond := [Cond.static arraycopyName, Cond.initialized "java/lang/System"]
def wsX4_twin : List Cond := .code yX4_twin cX4_twin 3 none :: ((wsX4_twin_r1 ++ (wsX4_twin_r2 ++ (wsX4_twin_r3 ++ (wsX4_twin_r4 ++ wsX4_twin_r5)))) ++ wsX40 ++ wsJx4a65c0 ++ (vx_atS RX4 251 "java/lang/IndexOutOfBoundsException" ["java/lang/RuntimeException", "java/lang/Exception"]).filter goodWord ++ (vx_atS RX4 115 "java/lang/UnsupportedOperationException" ["java/lang/RuntimeException", "java/lang/Exception"]).filter goodWord)
def wsX4_letter_r1 : List Cond := [Cond.classLink RX4 50 "java/lang/IllegalArgumentException", Cond.initialized "java/lang/IllegalArgumentException", Cond.methodLink RX4 178 yX4_letterAt, Cond.instanceMethod yX4_letterAt, Cond.selects RX4 yX4_letterAt yX4_letterAt, Cond.initialized RX4, Cond.code yX4_letterAt cX4_letterAt 2 (some (.object "NoticeStations$Letter")), Cond.fieldLink RX4 22 "NoticeStations" "row" "Ljava/util/ArrayList;", Cond.classLink RX4 183 "NoticeStations$Letter", Cond.methodLink RX4 210 yX4_requireLetter, Cond.instanceMethod yX4_requireLetter, Cond.selects RX4 yX4_requireLetter yX4_requireLetter, Cond.code yX4_requireLetter cX4_requireLetter 2 none, Cond.classLink RX4 247 "java/lang/IndexOutOfBoundsException", Cond.initialized "java/lang/IndexOutOfBoundsException", Cond.methodLink RX4 175 yJx4a65c_size_8abf5, Cond.instanceMethod yJx4a65c_size_8abf5, Cond.selects RJx4a65c yJx4a65c_size_8abf5 yJx4a65c_size_8abf5, Cond.initialized RJx4a65c, Cond.code yJx4a65c_size_8abf5 cJx4a65c_size_8abf5 1 (some .int), Cond.fieldLink RJx4a65c 48 "java/util/ArrayList" "size" "I", Cond.methodLink RX4 46 yX4_isBelow, Cond.static yX4_isBelow, Cond.code yX4_isBelow cX4_isBelow 2 (some .boolean)]
def wsX4_letter_r2 : List Cond := [Cond.methodLink RX4 256 yJx4a65c_get_915e3, Cond.instanceMethod yJx4a65c_get_915e3, Cond.selects RJx4a65c yJx4a65c_get_915e3 yJx4a65c_get_915e3, Cond.code yJx4a65c_get_915e3 cJx4a65c_get_915e3 2 (some (.object "java/lang/Object")), Cond.methodLink RJx4a65c 118 yJ15_checkIndex_7cf53, Cond.static yJ15_checkIndex_7cf53, Cond.initialized RJ15, Cond.code yJ15_checkIndex_7cf53 cJ15_checkIndex_7cf53 2 (some .int), Cond.methodLink RJ15 105 yJ3_checkIndex_8e157, Cond.static yJ3_checkIndex_8e157, Cond.initialized RJ3, Cond.code yJ3_checkIndex_8e157 cJ3_checkIndex_8e157 3 (some .int), Cond.methodLink RJx4a65c 123 yJx4a65c_elementData_915e3, Cond.instanceMethod yJx4a65c_elementData_915e3, Cond.selects RJx4a65c yJx4a65c_elementData_915e3 yJx4a65c_elementData_915e3, Cond.code yJx4a65c_elementData_915e3 cJx4a65c_elementData_915e3 2 (some (.object "java/lang/Object")), Cond.fieldLink RJx4a65c 9 "java/util/ArrayList" "elementData" "[Ljava/lang/Object;"]
def wsX4_letter : List Cond := .code yX4_letter cX4_letter 4 (some .int) :: ((wsX4_letter_r1 ++ wsX4_letter_r2) ++ wsX00 ++ wsX40 ++ wsJx4a65c0 ++ (vx_atS RX4 54 "java/lang/IllegalArgumentException" ["java/lang/RuntimeException", "java/lang/Exception"]).filter goodWord ++ (vx_atS RX4 251 "java/lang/IndexOutOfBoundsException" ["java/lang/RuntimeException", "java/lang/Exception"]).filter goodWord)
def wsX4_count : List Cond := .code yX4_count cX4_count 2 (some .int) :: ([.methodLink RX4 42 yX4_stationAt, .instanceMethod yX4_stationAt, .selects RX4 yX4_stationAt yX4_stationAt, .initialized RX4, .code yX4_stationAt cX4_stationAt 2 (some (.object "NoticeStations$Station")), .classLink RX4 247 "java/lang/IndexOutOfBoundsException", .initialized "java/lang/IndexOutOfBoundsException", .fieldLink RX4 11 "NoticeStations" "stations" "[LNoticeStations$Station;", .methodLink RX4 46 yX4_isBelow, .static yX4_isBelow, .code yX4_isBelow cX4_isBelow 2 (some .boolean), .instanceMethod yX2_length, .initialized RX2, .selects RX2 yX2_length yX2_length, .code yX2_length cX2_length 1 (some .int), .fieldLink RX2 7 "NoticeStations$Standing" "entries" "[I"] ++ wsX30 ++ wsX40 ++ wsX20 ++ (vx_atS RX4 251 "java/lang/IndexOutOfBoundsException" ["java/lang/RuntimeException", "java/lang/Exception"]).filter goodWord)
def wsX4_entry : List Cond := .code yX4_entry cX4_entry 5 (some .int) :: ([.classLink RX4 72 "java/util/NoSuchElementException", .initialized "java/util/NoSuchElementException", .methodLink RX4 42 yX4_stationAt, .instanceMethod yX4_stationAt, .selects RX4 yX4_stationAt yX4_stationAt, .initialized RX4, .code yX4_stationAt cX4_stationAt 2 (some (.object "NoticeStations$Station")), .classLink RX4 247 "java/lang/IndexOutOfBoundsException", .initialized "java/lang/IndexOutOfBoundsException", .fieldLink RX4 11 "NoticeStations" "stations" "[LNoticeStations$Station;", .methodLink RX4 46 yX4_isBelow, .static yX4_isBelow, .code yX4_isBelow cX4_isBelow 2 (some .boolean), .instanceMethod yX2_length, .initialized RX2, .selects RX2 yX2_length yX2_length, .code yX2_length cX2_length 1 (some .int), .fieldLink RX2 7 "NoticeStations$Standing" "entries" "[I"] ++ wsX30 ++ wsX20 ++ wsX40 ++ (vx_atS RX4 76 "java/util/NoSuchElementException" ["java/lang/RuntimeException", "java/lang/Exception"]).filter goodWord ++ (vx_atS RX4 251 "java/lang/IndexOutOfBoundsException" ["java/lang/RuntimeException", "java/lang/Exception"]).filter goodWord)
def wsX4_about : List Cond := .code yX4_about cX4_about 4 (some .int) :: ([.classLink RX4 50 "java/lang/IllegalArgumentException", .initialized "java/lang/IllegalArgumentException", .methodLink RX4 42 yX4_stationAt, .instanceMethod yX4_stationAt, .selects RX4 yX4_stationAt yX4_stationAt, .initialized RX4, .code yX4_stationAt cX4_stationAt 2 (some (.object "NoticeStations$Station")), .classLink RX4 247 "java/lang/IndexOutOfBoundsException", .initialized "java/lang/IndexOutOfBoundsException", .fieldLink RX4 11 "NoticeStations" "stations" "[LNoticeStations$Station;", .methodLink RX4 46 yX4_isBelow, .static yX4_isBelow, .code yX4_isBelow cX4_isBelow 2 (some .boolean)] ++ wsX30 ++ wsX20 ++ wsX10 ++ wsX40 ++ (vx_atS RX4 54 "java/lang/IllegalArgumentException" ["java/lang/RuntimeException", "java/lang/Exception"]).filter goodWord ++ (vx_atS RX4 251 "java/lang/IndexOutOfBoundsException" ["java/lang/RuntimeException", "java/lang/Exception"]).filter goodWord)
def wsX4_allowed_r1 : List Cond := [Cond.classLink RX4 50 "java/lang/IllegalArgumentException", Cond.initialized "java/lang/IllegalArgumentException", Cond.fieldLink RX4 11 "NoticeStations" "stations" "[LNoticeStations$Station;", Cond.fieldLink RX4 28 "NoticeStations" "asIfGranted" "[LNoticeStations$Standing;", Cond.methodLink RX4 46 yX4_isBelow, Cond.static yX4_isBelow, Cond.initialized RX4, Cond.code yX4_isBelow cX4_isBelow 2 (some .boolean), Cond.instanceMethod yX3_isFree, Cond.initialized RX3, Cond.selects RX3 yX3_isFree yX3_isFree, Cond.code yX3_isFree cX3_isFree 1 (some .boolean), Cond.fieldLink RX3 9 "NoticeStations$Station" "up" "Z", Cond.fieldLink RX3 26 "NoticeStations$Station" "lock" "I", Cond.methodLink RX3 39 yX3_isInDoubt, Cond.instanceMethod yX3_isInDoubt, Cond.selects RX3 yX3_isInDoubt yX3_isInDoubt, Cond.code yX3_isInDoubt cX3_isInDoubt 1 (some .boolean), Cond.fieldLink RX3 22 "NoticeStations$Station" "preparedStanding" "LNoticeStations$Standing;", Cond.methodLink RX4 99 yX4_heldByHolders, Cond.static yX4_heldByHolders, Cond.code yX4_heldByHolders cX4_heldByHolders 3 (some (.object "NoticeStations$Standing")), Cond.instanceMethod yX2_length, Cond.initialized RX2]
def wsX4_allowed_r2 : List Cond := [Cond.selects RX2 yX2_length yX2_length, Cond.code yX2_length cX2_length 1 (some .int), Cond.fieldLink RX2 7 "NoticeStations$Standing" "entries" "[I", Cond.methodLink RX4 103 yX4_mayGoOn, Cond.static yX4_mayGoOn, Cond.code yX4_mayGoOn cX4_mayGoOn 5 (some .boolean)]
def wsX4_allowed : List Cond := .code yX4_allowed cX4_allowed 4 (some .boolean) :: ((wsX4_allowed_r1 ++ wsX4_allowed_r2) ++ wsX40 ++ wsX30 ++ wsX20 ++ (vx_atS RX4 54 "java/lang/IllegalArgumentException" ["java/lang/RuntimeException", "java/lang/Exception"]).filter goodWord)
def wsX4_isOn : List Cond := .code yX4_isOn cX4_isOn 5 (some .boolean) :: ([])
def wsX4_inForce_r1 : List Cond := [Cond.methodLink RX4 42 yX4_stationAt, Cond.instanceMethod yX4_stationAt, Cond.selects RX4 yX4_stationAt yX4_stationAt, Cond.initialized RX4, Cond.code yX4_stationAt cX4_stationAt 2 (some (.object "NoticeStations$Station")), Cond.classLink RX4 247 "java/lang/IndexOutOfBoundsException", Cond.initialized "java/lang/IndexOutOfBoundsException", Cond.fieldLink RX4 11 "NoticeStations" "stations" "[LNoticeStations$Station;", Cond.methodLink RX4 46 yX4_isBelow, Cond.static yX4_isBelow, Cond.code yX4_isBelow cX4_isBelow 2 (some .boolean), Cond.instanceMethod yX2_length, Cond.initialized RX2, Cond.selects RX2 yX2_length yX2_length, Cond.code yX2_length cX2_length 1 (some .int), Cond.fieldLink RX2 7 "NoticeStations$Standing" "entries" "[I", Cond.instanceMethod yX2_hasNoticeAt, Cond.selects RX2 yX2_hasNoticeAt yX2_hasNoticeAt, Cond.code yX2_hasNoticeAt cX2_hasNoticeAt 2 (some .boolean), Cond.methodLink RX4 243 yX4_isOn, Cond.static yX4_isOn, Cond.code yX4_isOn cX4_isOn 5 (some .boolean), Cond.instanceMethod yX2_isWithdrawn, Cond.selects RX2 yX2_isWithdrawn yX2_isWithdrawn]
def wsX4_inForce_r2 : List Cond := [Cond.code yX2_isWithdrawn cX2_isWithdrawn 4 (some .boolean), Cond.static yX4_withdrawalOf, Cond.code yX4_withdrawalOf cX4_withdrawalOf 1 (some .int)]
def wsX4_inForce : List Cond := .code yX4_inForce cX4_inForce 7 (some .int) :: ((wsX4_inForce_r1 ++ wsX4_inForce_r2) ++ wsX30 ++ wsX20 ++ wsX40 ++ (vx_atS RX4 251 "java/lang/IndexOutOfBoundsException" ["java/lang/RuntimeException", "java/lang/Exception"]).filter goodWord)
def wsX5_init_r1 : List Cond := [Cond.methodLink RX5 1 objectInit, Cond.instanceMethod objectInit, Cond.code objectInit ⟨#[0xb1]⟩ 1 none, Cond.fieldLink RX5 7 "NoticeStationsModel" "states" "I", Cond.arrayClass .int, Cond.fieldLink RX5 13 "NoticeStationsModel" "length" "[I", Cond.fieldLink RX5 17 "NoticeStationsModel" "earlier" "[I", Cond.fieldLink RX5 20 "NoticeStationsModel" "entryOf" "[I", Cond.fieldLink RX5 23 "NoticeStationsModel" "writeOf" "[I", Cond.fieldLink RX5 26 "NoticeStationsModel" "sizeOf" "[I", Cond.fieldLink RX5 29 "NoticeStationsModel" "namedOf" "[I", Cond.fieldLink RX5 32 "NoticeStationsModel" "state" "[I", Cond.fieldLink RX5 35 "NoticeStationsModel" "began" "[I", Cond.fieldLink RX5 38 "NoticeStationsModel" "preparedFor" "[I", Cond.fieldLink RX5 41 "NoticeStationsModel" "preparedState" "[I", Cond.arrayClass .boolean, Cond.fieldLink RX5 44 "NoticeStationsModel" "stopped" "[Z", Cond.fieldLink RX5 48 "NoticeStationsModel" "lock" "[I", Cond.fieldLink RX5 51 "NoticeStationsModel" "open" "[I", Cond.fieldLink RX5 54 "NoticeStationsModel" "openEntry" "[I", Cond.fieldLink RX5 57 "NoticeStationsModel" "made" "[I", Cond.fieldLink RX5 60 "NoticeStationsModel" "group" "[I", Cond.fieldLink RX5 63 "NoticeStationsModel" "done" "[I", Cond.fieldLink RX5 66 "NoticeStationsModel" "granted" "[I"]
def wsX5_init_r2 : List Cond := [Cond.fieldLink RX5 69 "NoticeStationsModel" "torn" "[Z", Cond.fieldLink RX5 72 "NoticeStationsModel" "mark" "[I", Cond.fieldLink RX5 75 "NoticeStationsModel" "kind" "[I", Cond.fieldLink RX5 78 "NoticeStationsModel" "from" "[I", Cond.fieldLink RX5 81 "NoticeStationsModel" "to" "[I", Cond.fieldLink RX5 84 "NoticeStationsModel" "write" "[I", Cond.fieldLink RX5 87 "NoticeStationsModel" "with" "[I", Cond.fieldLink RX5 90 "NoticeStationsModel" "asked" "[I"]
def wsX5_init : List Cond := .code yX5_init cX5_init 1 none :: ((wsX5_init_r1 ++ wsX5_init_r2) ++ wsX50)
def wsX5_thrown : List Cond := .code yX5_thrown cX5_thrown 1 (some .int) :: ([.fieldLink RX5 93 "NoticeStationsModel" "thrown" "I"] ++ wsX50)
def wsX5_isOne : List Cond := .code yX5_isOne cX5_isOne 1 (some .boolean) :: ([])
def wsX5_has : List Cond := .code yX5_has cX5_has 2 (some .boolean) :: ([])
def wsX5_many : List Cond := .code yX5_many cX5_many 3 (some .int) :: ([.methodLink RX5 96 yX5_has, .static yX5_has, .initialized RX5, .code yX5_has cX5_has 2 (some .boolean)])
def wsX5_isFree : List Cond := .code yX5_isFree cX5_isFree 2 (some .boolean) :: ([.fieldLink RX5 44 "NoticeStationsModel" "stopped" "[Z", .fieldLink RX5 48 "NoticeStationsModel" "lock" "[I", .fieldLink RX5 38 "NoticeStationsModel" "preparedFor" "[I"] ++ wsX50)
def wsX5_back : List Cond := .code yX5_back cX5_back 4 (some .int) :: ([.fieldLink RX5 13 "NoticeStationsModel" "length" "[I", .fieldLink RX5 17 "NoticeStationsModel" "earlier" "[I"] ++ wsX50)
def wsX5_contains : List Cond := .code yX5_contains cX5_contains 4 (some .boolean) :: ([.fieldLink RX5 13 "NoticeStationsModel" "length" "[I", .fieldLink RX5 23 "NoticeStationsModel" "writeOf" "[I", .fieldLink RX5 17 "NoticeStationsModel" "earlier" "[I"] ++ wsX50)
def wsX5_isNotice : List Cond := .code yX5_isNotice cX5_isNotice 4 (some .boolean) :: ([.fieldLink RX5 13 "NoticeStationsModel" "length" "[I", .fieldLink RX5 20 "NoticeStationsModel" "entryOf" "[I", .fieldLink RX5 17 "NoticeStationsModel" "earlier" "[I", .methodLink RX5 100 yX5_back, .instanceMethod yX5_back, .selects RX5 yX5_back yX5_back, .initialized RX5, .code yX5_back cX5_back 4 (some .int)] ++ wsX50)
def wsX5_isFull : List Cond := .code yX5_isFull cX5_isFull 2 (some .boolean) :: ([.fieldLink RX5 104 "NoticeStationsModel" "letters" "I"] ++ wsX50)
def wsX5_send : List Cond := .code yX5_send cX5_send 6 none :: ([.fieldLink RX5 75 "NoticeStationsModel" "kind" "[I", .fieldLink RX5 104 "NoticeStationsModel" "letters" "I", .fieldLink RX5 78 "NoticeStationsModel" "from" "[I", .fieldLink RX5 81 "NoticeStationsModel" "to" "[I", .fieldLink RX5 84 "NoticeStationsModel" "write" "[I", .fieldLink RX5 87 "NoticeStationsModel" "with" "[I"] ++ wsX50)
def wsX5_remove : List Cond := .code yX5_remove cX5_remove 3 none :: ([.fieldLink RX5 104 "NoticeStationsModel" "letters" "I", .fieldLink RX5 75 "NoticeStationsModel" "kind" "[I", .fieldLink RX5 78 "NoticeStationsModel" "from" "[I", .fieldLink RX5 81 "NoticeStationsModel" "to" "[I", .fieldLink RX5 84 "NoticeStationsModel" "write" "[I", .fieldLink RX5 87 "NoticeStationsModel" "with" "[I"] ++ wsX50)
def wsX5_sendAll : List Cond := .code yX5_sendAll cX5_sendAll 7 none :: ([.methodLink RX5 96 yX5_has, .static yX5_has, .initialized RX5, .code yX5_has cX5_has 2 (some .boolean), .methodLink RX5 107 yX5_send, .instanceMethod yX5_send, .selects RX5 yX5_send yX5_send, .code yX5_send cX5_send 6 none, .fieldLink RX5 75 "NoticeStationsModel" "kind" "[I", .fieldLink RX5 104 "NoticeStationsModel" "letters" "I", .fieldLink RX5 78 "NoticeStationsModel" "from" "[I", .fieldLink RX5 81 "NoticeStationsModel" "to" "[I", .fieldLink RX5 84 "NoticeStationsModel" "write" "[I", .fieldLink RX5 87 "NoticeStationsModel" "with" "[I"] ++ wsX50)
def wsX5_cable : List Cond := .code yX5_cable cX5_cable 4 (some .boolean) :: ([.fieldLink RX5 93 "NoticeStationsModel" "thrown" "I", .fieldLink RX5 69 "NoticeStationsModel" "torn" "[Z", .methodLink RX5 111 yX5_isOne, .static yX5_isOne, .initialized RX5, .code yX5_isOne cX5_isOne 1 (some .boolean)] ++ wsX50)
def wsX5_isJoined : List Cond := .code yX5_isJoined cX5_isJoined 6 (some .boolean) :: ([.fieldLink RX5 72 "NoticeStationsModel" "mark" "[I", .fieldLink RX5 69 "NoticeStationsModel" "torn" "[Z"] ++ wsX50)
def wsX5_begin_r1 : List Cond := [Cond.fieldLink RX5 13 "NoticeStationsModel" "length" "[I", Cond.fieldLink RX5 32 "NoticeStationsModel" "state" "[I", Cond.fieldLink RX5 93 "NoticeStationsModel" "thrown" "I", Cond.fieldLink RX5 35 "NoticeStationsModel" "began" "[I", Cond.fieldLink RX5 48 "NoticeStationsModel" "lock" "[I", Cond.fieldLink RX5 51 "NoticeStationsModel" "open" "[I", Cond.fieldLink RX5 54 "NoticeStationsModel" "openEntry" "[I", Cond.fieldLink RX5 57 "NoticeStationsModel" "made" "[I", Cond.fieldLink RX5 63 "NoticeStationsModel" "done" "[I", Cond.fieldLink RX5 66 "NoticeStationsModel" "granted" "[I", Cond.methodLink RX5 115 yX5_isFree, Cond.instanceMethod yX5_isFree, Cond.selects RX5 yX5_isFree yX5_isFree, Cond.initialized RX5, Cond.code yX5_isFree cX5_isFree 2 (some .boolean), Cond.fieldLink RX5 44 "NoticeStationsModel" "stopped" "[Z", Cond.fieldLink RX5 38 "NoticeStationsModel" "preparedFor" "[I", Cond.methodLink RX5 118 yX5_isFull, Cond.instanceMethod yX5_isFull, Cond.selects RX5 yX5_isFull yX5_isFull, Cond.code yX5_isFull cX5_isFull 2 (some .boolean), Cond.fieldLink RX5 104 "NoticeStationsModel" "letters" "I", Cond.methodLink RX5 121 yX5_sendAll, Cond.instanceMethod yX5_sendAll]
def wsX5_begin_r2 : List Cond := [Cond.selects RX5 yX5_sendAll yX5_sendAll, Cond.code yX5_sendAll cX5_sendAll 7 none, Cond.methodLink RX5 96 yX5_has, Cond.static yX5_has, Cond.code yX5_has cX5_has 2 (some .boolean), Cond.methodLink RX5 107 yX5_send, Cond.instanceMethod yX5_send, Cond.selects RX5 yX5_send yX5_send, Cond.code yX5_send cX5_send 6 none, Cond.fieldLink RX5 75 "NoticeStationsModel" "kind" "[I", Cond.fieldLink RX5 78 "NoticeStationsModel" "from" "[I", Cond.fieldLink RX5 81 "NoticeStationsModel" "to" "[I", Cond.fieldLink RX5 84 "NoticeStationsModel" "write" "[I", Cond.fieldLink RX5 87 "NoticeStationsModel" "with" "[I"]
def wsX5_begin : List Cond := .code yX5_begin cX5_begin 4 (some .int) :: ((wsX5_begin_r1 ++ wsX5_begin_r2) ++ wsX50)
def wsX5_write_r1 : List Cond := [Cond.fieldLink RX5 93 "NoticeStationsModel" "thrown" "I", Cond.methodLink RX5 111 yX5_isOne, Cond.static yX5_isOne, Cond.initialized RX5, Cond.code yX5_isOne cX5_isOne 1 (some .boolean), Cond.methodLink RX5 124 yX5_begin, Cond.instanceMethod yX5_begin, Cond.selects RX5 yX5_begin yX5_begin, Cond.code yX5_begin cX5_begin 4 (some .int), Cond.fieldLink RX5 13 "NoticeStationsModel" "length" "[I", Cond.fieldLink RX5 32 "NoticeStationsModel" "state" "[I", Cond.fieldLink RX5 35 "NoticeStationsModel" "began" "[I", Cond.fieldLink RX5 48 "NoticeStationsModel" "lock" "[I", Cond.fieldLink RX5 51 "NoticeStationsModel" "open" "[I", Cond.fieldLink RX5 54 "NoticeStationsModel" "openEntry" "[I", Cond.fieldLink RX5 57 "NoticeStationsModel" "made" "[I", Cond.fieldLink RX5 63 "NoticeStationsModel" "done" "[I", Cond.fieldLink RX5 66 "NoticeStationsModel" "granted" "[I", Cond.methodLink RX5 115 yX5_isFree, Cond.instanceMethod yX5_isFree, Cond.selects RX5 yX5_isFree yX5_isFree, Cond.code yX5_isFree cX5_isFree 2 (some .boolean), Cond.fieldLink RX5 44 "NoticeStationsModel" "stopped" "[Z", Cond.fieldLink RX5 38 "NoticeStationsModel" "preparedFor" "[I"]
def wsX5_write_r2 : List Cond := [Cond.methodLink RX5 118 yX5_isFull, Cond.instanceMethod yX5_isFull, Cond.selects RX5 yX5_isFull yX5_isFull, Cond.code yX5_isFull cX5_isFull 2 (some .boolean), Cond.fieldLink RX5 104 "NoticeStationsModel" "letters" "I", Cond.methodLink RX5 121 yX5_sendAll, Cond.instanceMethod yX5_sendAll, Cond.selects RX5 yX5_sendAll yX5_sendAll, Cond.code yX5_sendAll cX5_sendAll 7 none, Cond.methodLink RX5 96 yX5_has, Cond.static yX5_has, Cond.code yX5_has cX5_has 2 (some .boolean), Cond.methodLink RX5 107 yX5_send, Cond.instanceMethod yX5_send, Cond.selects RX5 yX5_send yX5_send, Cond.code yX5_send cX5_send 6 none, Cond.fieldLink RX5 75 "NoticeStationsModel" "kind" "[I", Cond.fieldLink RX5 78 "NoticeStationsModel" "from" "[I", Cond.fieldLink RX5 81 "NoticeStationsModel" "to" "[I", Cond.fieldLink RX5 84 "NoticeStationsModel" "write" "[I", Cond.fieldLink RX5 87 "NoticeStationsModel" "with" "[I"]
def wsX5_write : List Cond := .code yX5_write cX5_write 6 (some .int) :: ((wsX5_write_r1 ++ wsX5_write_r2) ++ wsX50)
def wsX5_withdraw_r1 : List Cond := [Cond.fieldLink RX5 32 "NoticeStationsModel" "state" "[I", Cond.fieldLink RX5 93 "NoticeStationsModel" "thrown" "I", Cond.methodLink RX5 111 yX5_isOne, Cond.static yX5_isOne, Cond.initialized RX5, Cond.code yX5_isOne cX5_isOne 1 (some .boolean), Cond.methodLink RX5 127 yX5_isNotice, Cond.instanceMethod yX5_isNotice, Cond.selects RX5 yX5_isNotice yX5_isNotice, Cond.code yX5_isNotice cX5_isNotice 4 (some .boolean), Cond.fieldLink RX5 13 "NoticeStationsModel" "length" "[I", Cond.fieldLink RX5 20 "NoticeStationsModel" "entryOf" "[I", Cond.fieldLink RX5 17 "NoticeStationsModel" "earlier" "[I", Cond.methodLink RX5 100 yX5_back, Cond.instanceMethod yX5_back, Cond.selects RX5 yX5_back yX5_back, Cond.code yX5_back cX5_back 4 (some .int), Cond.methodLink RX5 124 yX5_begin, Cond.instanceMethod yX5_begin, Cond.selects RX5 yX5_begin yX5_begin, Cond.code yX5_begin cX5_begin 4 (some .int), Cond.fieldLink RX5 35 "NoticeStationsModel" "began" "[I", Cond.fieldLink RX5 48 "NoticeStationsModel" "lock" "[I", Cond.fieldLink RX5 51 "NoticeStationsModel" "open" "[I"]
def wsX5_withdraw_r2 : List Cond := [Cond.fieldLink RX5 54 "NoticeStationsModel" "openEntry" "[I", Cond.fieldLink RX5 57 "NoticeStationsModel" "made" "[I", Cond.fieldLink RX5 63 "NoticeStationsModel" "done" "[I", Cond.fieldLink RX5 66 "NoticeStationsModel" "granted" "[I", Cond.methodLink RX5 115 yX5_isFree, Cond.instanceMethod yX5_isFree, Cond.selects RX5 yX5_isFree yX5_isFree, Cond.code yX5_isFree cX5_isFree 2 (some .boolean), Cond.fieldLink RX5 44 "NoticeStationsModel" "stopped" "[Z", Cond.fieldLink RX5 38 "NoticeStationsModel" "preparedFor" "[I", Cond.methodLink RX5 118 yX5_isFull, Cond.instanceMethod yX5_isFull, Cond.selects RX5 yX5_isFull yX5_isFull, Cond.code yX5_isFull cX5_isFull 2 (some .boolean), Cond.fieldLink RX5 104 "NoticeStationsModel" "letters" "I", Cond.methodLink RX5 121 yX5_sendAll, Cond.instanceMethod yX5_sendAll, Cond.selects RX5 yX5_sendAll yX5_sendAll, Cond.code yX5_sendAll cX5_sendAll 7 none, Cond.methodLink RX5 96 yX5_has, Cond.static yX5_has, Cond.code yX5_has cX5_has 2 (some .boolean), Cond.methodLink RX5 107 yX5_send, Cond.instanceMethod yX5_send]
def wsX5_withdraw_r3 : List Cond := [Cond.selects RX5 yX5_send yX5_send, Cond.code yX5_send cX5_send 6 none, Cond.fieldLink RX5 75 "NoticeStationsModel" "kind" "[I", Cond.fieldLink RX5 78 "NoticeStationsModel" "from" "[I", Cond.fieldLink RX5 81 "NoticeStationsModel" "to" "[I", Cond.fieldLink RX5 84 "NoticeStationsModel" "write" "[I", Cond.fieldLink RX5 87 "NoticeStationsModel" "with" "[I"]
def wsX5_withdraw : List Cond := .code yX5_withdraw cX5_withdraw 3 (some .int) :: ((wsX5_withdraw_r1 ++ (wsX5_withdraw_r2 ++ wsX5_withdraw_r3)) ++ wsX50)
def wsX5_greatest : List Cond := .code yX5_greatest cX5_greatest 3 (some .int) :: ([.fieldLink RX5 90 "NoticeStationsModel" "asked" "[I", .fieldLink RX5 13 "NoticeStationsModel" "length" "[I"] ++ wsX50)
def wsX5_mayGoOn : List Cond := .code yX5_mayGoOn cX5_mayGoOn 4 (some .boolean) :: ([.fieldLink RX5 90 "NoticeStationsModel" "asked" "[I", .fieldLink RX5 13 "NoticeStationsModel" "length" "[I", .fieldLink RX5 29 "NoticeStationsModel" "namedOf" "[I", .fieldLink RX5 26 "NoticeStationsModel" "sizeOf" "[I", .methodLink RX5 130 yX5_greatest, .instanceMethod yX5_greatest, .selects RX5 yX5_greatest yX5_greatest, .initialized RX5, .code yX5_greatest cX5_greatest 3 (some .int)] ++ wsX50)
def wsX5_askGranted : List Cond := .code yX5_askGranted cX5_askGranted 3 none :: ([.fieldLink RX5 90 "NoticeStationsModel" "asked" "[I", .fieldLink RX5 63 "NoticeStationsModel" "done" "[I", .fieldLink RX5 66 "NoticeStationsModel" "granted" "[I", .methodLink RX5 96 yX5_has, .static yX5_has, .initialized RX5, .code yX5_has cX5_has 2 (some .boolean)] ++ wsX50)
def wsX5_longer : List Cond := .code yX5_longer cX5_longer 3 (some (.array .int)) :: ([.arrayClass .int])
def wsX5_finish : List Cond := .code yX5_finish cX5_finish 3 none :: ([.fieldLink RX5 51 "NoticeStationsModel" "open" "[I", .fieldLink RX5 57 "NoticeStationsModel" "made" "[I", .fieldLink RX5 63 "NoticeStationsModel" "done" "[I", .fieldLink RX5 60 "NoticeStationsModel" "group" "[I", .fieldLink RX5 32 "NoticeStationsModel" "state" "[I", .fieldLink RX5 48 "NoticeStationsModel" "lock" "[I", .methodLink RX5 121 yX5_sendAll, .instanceMethod yX5_sendAll, .selects RX5 yX5_sendAll yX5_sendAll, .initialized RX5, .code yX5_sendAll cX5_sendAll 7 none, .methodLink RX5 96 yX5_has, .static yX5_has, .code yX5_has cX5_has 2 (some .boolean), .methodLink RX5 107 yX5_send, .instanceMethod yX5_send, .selects RX5 yX5_send yX5_send, .code yX5_send cX5_send 6 none, .fieldLink RX5 75 "NoticeStationsModel" "kind" "[I", .fieldLink RX5 104 "NoticeStationsModel" "letters" "I", .fieldLink RX5 78 "NoticeStationsModel" "from" "[I", .fieldLink RX5 81 "NoticeStationsModel" "to" "[I", .fieldLink RX5 84 "NoticeStationsModel" "write" "[I", .fieldLink RX5 87 "NoticeStationsModel" "with" "[I"] ++ wsX50)
def wsX5_decide_r1 : List Cond := [Cond.fieldLink RX5 51 "NoticeStationsModel" "open" "[I", Cond.fieldLink RX5 57 "NoticeStationsModel" "made" "[I", Cond.fieldLink RX5 93 "NoticeStationsModel" "thrown" "I", Cond.fieldLink RX5 63 "NoticeStationsModel" "done" "[I", Cond.fieldLink RX5 13 "NoticeStationsModel" "length" "[I", Cond.fieldLink RX5 7 "NoticeStationsModel" "states" "I", Cond.fieldLink RX5 17 "NoticeStationsModel" "earlier" "[I", Cond.fieldLink RX5 20 "NoticeStationsModel" "entryOf" "[I", Cond.fieldLink RX5 23 "NoticeStationsModel" "writeOf" "[I", Cond.fieldLink RX5 26 "NoticeStationsModel" "sizeOf" "[I", Cond.fieldLink RX5 29 "NoticeStationsModel" "namedOf" "[I", Cond.fieldLink RX5 54 "NoticeStationsModel" "openEntry" "[I", Cond.fieldLink RX5 60 "NoticeStationsModel" "group" "[I", Cond.methodLink RX5 111 yX5_isOne, Cond.static yX5_isOne, Cond.initialized RX5, Cond.code yX5_isOne cX5_isOne 1 (some .boolean), Cond.methodLink RX5 134 yX5_askGranted, Cond.instanceMethod yX5_askGranted, Cond.selects RX5 yX5_askGranted yX5_askGranted, Cond.code yX5_askGranted cX5_askGranted 3 none, Cond.fieldLink RX5 90 "NoticeStationsModel" "asked" "[I", Cond.fieldLink RX5 66 "NoticeStationsModel" "granted" "[I", Cond.methodLink RX5 96 yX5_has]
def wsX5_decide_r2 : List Cond := [Cond.static yX5_has, Cond.code yX5_has cX5_has 2 (some .boolean), Cond.methodLink RX5 138 yX5_mayGoOn, Cond.instanceMethod yX5_mayGoOn, Cond.selects RX5 yX5_mayGoOn yX5_mayGoOn, Cond.code yX5_mayGoOn cX5_mayGoOn 4 (some .boolean), Cond.methodLink RX5 130 yX5_greatest, Cond.instanceMethod yX5_greatest, Cond.selects RX5 yX5_greatest yX5_greatest, Cond.code yX5_greatest cX5_greatest 3 (some .int), Cond.methodLink RX5 142 yX5_many, Cond.static yX5_many, Cond.code yX5_many cX5_many 3 (some .int), Cond.methodLink RX5 118 yX5_isFull, Cond.instanceMethod yX5_isFull, Cond.selects RX5 yX5_isFull yX5_isFull, Cond.code yX5_isFull cX5_isFull 2 (some .boolean), Cond.fieldLink RX5 104 "NoticeStationsModel" "letters" "I", Cond.methodLink RX5 146 yX5_longer, Cond.static yX5_longer, Cond.code yX5_longer cX5_longer 3 (some (.array .int)), Cond.arrayClass .int, Cond.methodLink RX5 121 yX5_sendAll, Cond.instanceMethod yX5_sendAll]
def wsX5_decide_r3 : List Cond := [Cond.selects RX5 yX5_sendAll yX5_sendAll, Cond.code yX5_sendAll cX5_sendAll 7 none, Cond.methodLink RX5 107 yX5_send, Cond.instanceMethod yX5_send, Cond.selects RX5 yX5_send yX5_send, Cond.code yX5_send cX5_send 6 none, Cond.fieldLink RX5 75 "NoticeStationsModel" "kind" "[I", Cond.fieldLink RX5 78 "NoticeStationsModel" "from" "[I", Cond.fieldLink RX5 81 "NoticeStationsModel" "to" "[I", Cond.fieldLink RX5 84 "NoticeStationsModel" "write" "[I", Cond.fieldLink RX5 87 "NoticeStationsModel" "with" "[I", Cond.methodLink RX5 150 yX5_finish, Cond.instanceMethod yX5_finish, Cond.selects RX5 yX5_finish yX5_finish, Cond.code yX5_finish cX5_finish 3 none, Cond.fieldLink RX5 32 "NoticeStationsModel" "state" "[I", Cond.fieldLink RX5 48 "NoticeStationsModel" "lock" "[I"]
def wsX5_decide : List Cond := .code yX5_decide cX5_decide 5 (some .boolean) :: ((wsX5_decide_r1 ++ (wsX5_decide_r2 ++ wsX5_decide_r3)) ++ wsX50)
def wsX5_giveUp_r1 : List Cond := [Cond.fieldLink RX5 51 "NoticeStationsModel" "open" "[I", Cond.fieldLink RX5 93 "NoticeStationsModel" "thrown" "I", Cond.fieldLink RX5 48 "NoticeStationsModel" "lock" "[I", Cond.methodLink RX5 111 yX5_isOne, Cond.static yX5_isOne, Cond.initialized RX5, Cond.code yX5_isOne cX5_isOne 1 (some .boolean), Cond.methodLink RX5 118 yX5_isFull, Cond.instanceMethod yX5_isFull, Cond.selects RX5 yX5_isFull yX5_isFull, Cond.code yX5_isFull cX5_isFull 2 (some .boolean), Cond.fieldLink RX5 104 "NoticeStationsModel" "letters" "I", Cond.methodLink RX5 121 yX5_sendAll, Cond.instanceMethod yX5_sendAll, Cond.selects RX5 yX5_sendAll yX5_sendAll, Cond.code yX5_sendAll cX5_sendAll 7 none, Cond.methodLink RX5 96 yX5_has, Cond.static yX5_has, Cond.code yX5_has cX5_has 2 (some .boolean), Cond.methodLink RX5 107 yX5_send, Cond.instanceMethod yX5_send, Cond.selects RX5 yX5_send yX5_send, Cond.code yX5_send cX5_send 6 none, Cond.fieldLink RX5 75 "NoticeStationsModel" "kind" "[I"]
def wsX5_giveUp_r2 : List Cond := [Cond.fieldLink RX5 78 "NoticeStationsModel" "from" "[I", Cond.fieldLink RX5 81 "NoticeStationsModel" "to" "[I", Cond.fieldLink RX5 84 "NoticeStationsModel" "write" "[I", Cond.fieldLink RX5 87 "NoticeStationsModel" "with" "[I"]
def wsX5_giveUp : List Cond := .code yX5_giveUp cX5_giveUp 2 none :: ((wsX5_giveUp_r1 ++ wsX5_giveUp_r2) ++ wsX50)
def wsX5_resend_r1 : List Cond := [Cond.fieldLink RX5 51 "NoticeStationsModel" "open" "[I", Cond.fieldLink RX5 93 "NoticeStationsModel" "thrown" "I", Cond.fieldLink RX5 57 "NoticeStationsModel" "made" "[I", Cond.fieldLink RX5 60 "NoticeStationsModel" "group" "[I", Cond.fieldLink RX5 63 "NoticeStationsModel" "done" "[I", Cond.methodLink RX5 111 yX5_isOne, Cond.static yX5_isOne, Cond.initialized RX5, Cond.code yX5_isOne cX5_isOne 1 (some .boolean), Cond.methodLink RX5 142 yX5_many, Cond.static yX5_many, Cond.code yX5_many cX5_many 3 (some .int), Cond.methodLink RX5 96 yX5_has, Cond.static yX5_has, Cond.code yX5_has cX5_has 2 (some .boolean), Cond.methodLink RX5 118 yX5_isFull, Cond.instanceMethod yX5_isFull, Cond.selects RX5 yX5_isFull yX5_isFull, Cond.code yX5_isFull cX5_isFull 2 (some .boolean), Cond.fieldLink RX5 104 "NoticeStationsModel" "letters" "I", Cond.methodLink RX5 121 yX5_sendAll, Cond.instanceMethod yX5_sendAll, Cond.selects RX5 yX5_sendAll yX5_sendAll, Cond.code yX5_sendAll cX5_sendAll 7 none]
def wsX5_resend_r2 : List Cond := [Cond.methodLink RX5 107 yX5_send, Cond.instanceMethod yX5_send, Cond.selects RX5 yX5_send yX5_send, Cond.code yX5_send cX5_send 6 none, Cond.fieldLink RX5 75 "NoticeStationsModel" "kind" "[I", Cond.fieldLink RX5 78 "NoticeStationsModel" "from" "[I", Cond.fieldLink RX5 81 "NoticeStationsModel" "to" "[I", Cond.fieldLink RX5 84 "NoticeStationsModel" "write" "[I", Cond.fieldLink RX5 87 "NoticeStationsModel" "with" "[I"]
def wsX5_resend : List Cond := .code yX5_resend cX5_resend 3 (some .int) :: ((wsX5_resend_r1 ++ wsX5_resend_r2) ++ wsX50)
def wsX5_unlock : List Cond := .code yX5_unlock cX5_unlock 2 none :: ([.fieldLink RX5 48 "NoticeStationsModel" "lock" "[I", .fieldLink RX5 51 "NoticeStationsModel" "open" "[I", .fieldLink RX5 93 "NoticeStationsModel" "thrown" "I", .methodLink RX5 111 yX5_isOne, .static yX5_isOne, .initialized RX5, .code yX5_isOne cX5_isOne 1 (some .boolean)] ++ wsX50)
def wsX5_ask : List Cond := .code yX5_ask cX5_ask 3 none :: ([.fieldLink RX5 44 "NoticeStationsModel" "stopped" "[Z", .fieldLink RX5 38 "NoticeStationsModel" "preparedFor" "[I", .fieldLink RX5 93 "NoticeStationsModel" "thrown" "I", .fieldLink RX5 13 "NoticeStationsModel" "length" "[I", .fieldLink RX5 41 "NoticeStationsModel" "preparedState" "[I", .methodLink RX5 111 yX5_isOne, .static yX5_isOne, .initialized RX5, .code yX5_isOne cX5_isOne 1 (some .boolean), .methodLink RX5 118 yX5_isFull, .instanceMethod yX5_isFull, .selects RX5 yX5_isFull yX5_isFull, .code yX5_isFull cX5_isFull 2 (some .boolean), .fieldLink RX5 104 "NoticeStationsModel" "letters" "I", .methodLink RX5 107 yX5_send, .instanceMethod yX5_send, .selects RX5 yX5_send yX5_send, .code yX5_send cX5_send 6 none, .fieldLink RX5 75 "NoticeStationsModel" "kind" "[I", .fieldLink RX5 78 "NoticeStationsModel" "from" "[I", .fieldLink RX5 81 "NoticeStationsModel" "to" "[I", .fieldLink RX5 84 "NoticeStationsModel" "write" "[I", .fieldLink RX5 87 "NoticeStationsModel" "with" "[I"] ++ wsX50)
def wsX5_stop : List Cond := .code yX5_stop cX5_stop 2 (some .boolean) :: ([.fieldLink RX5 93 "NoticeStationsModel" "thrown" "I", .fieldLink RX5 44 "NoticeStationsModel" "stopped" "[Z", .fieldLink RX5 48 "NoticeStationsModel" "lock" "[I", .fieldLink RX5 51 "NoticeStationsModel" "open" "[I", .methodLink RX5 111 yX5_isOne, .static yX5_isOne, .initialized RX5, .code yX5_isOne cX5_isOne 1 (some .boolean)] ++ wsX50)
def wsX5_start : List Cond := .code yX5_start cX5_start 2 (some .boolean) :: ([.fieldLink RX5 93 "NoticeStationsModel" "thrown" "I", .fieldLink RX5 44 "NoticeStationsModel" "stopped" "[Z", .methodLink RX5 111 yX5_isOne, .static yX5_isOne, .initialized RX5, .code yX5_isOne cX5_isOne 1 (some .boolean)] ++ wsX50)
def wsX5_letters : List Cond := .code yX5_letters cX5_letters 1 (some .int) :: ([.fieldLink RX5 93 "NoticeStationsModel" "thrown" "I", .fieldLink RX5 104 "NoticeStationsModel" "letters" "I"] ++ wsX50)
def wsX5_isLetter : List Cond := .code yX5_isLetter cX5_isLetter 2 (some .boolean) :: ([.fieldLink RX5 104 "NoticeStationsModel" "letters" "I"] ++ wsX50)
def wsX5_counts : List Cond := .code yX5_counts cX5_counts 3 (some .boolean) :: ([.fieldLink RX5 81 "NoticeStationsModel" "to" "[I", .fieldLink RX5 51 "NoticeStationsModel" "open" "[I", .fieldLink RX5 84 "NoticeStationsModel" "write" "[I", .fieldLink RX5 57 "NoticeStationsModel" "made" "[I", .fieldLink RX5 60 "NoticeStationsModel" "group" "[I", .fieldLink RX5 78 "NoticeStationsModel" "from" "[I", .methodLink RX5 96 yX5_has, .static yX5_has, .initialized RX5, .code yX5_has cX5_has 2 (some .boolean)] ++ wsX50)
def wsX5_answer : List Cond := .code yX5_answer cX5_answer 5 none :: ([.fieldLink RX5 32 "NoticeStationsModel" "state" "[I", .fieldLink RX5 51 "NoticeStationsModel" "open" "[I", .fieldLink RX5 13 "NoticeStationsModel" "length" "[I", .methodLink RX5 161 yX5_contains, .instanceMethod yX5_contains, .selects RX5 yX5_contains yX5_contains, .initialized RX5, .code yX5_contains cX5_contains 4 (some .boolean), .fieldLink RX5 23 "NoticeStationsModel" "writeOf" "[I", .fieldLink RX5 17 "NoticeStationsModel" "earlier" "[I", .methodLink RX5 107 yX5_send, .instanceMethod yX5_send, .selects RX5 yX5_send yX5_send, .code yX5_send cX5_send 6 none, .fieldLink RX5 75 "NoticeStationsModel" "kind" "[I", .fieldLink RX5 104 "NoticeStationsModel" "letters" "I", .fieldLink RX5 78 "NoticeStationsModel" "from" "[I", .fieldLink RX5 81 "NoticeStationsModel" "to" "[I", .fieldLink RX5 84 "NoticeStationsModel" "write" "[I", .fieldLink RX5 87 "NoticeStationsModel" "with" "[I"] ++ wsX50)
def wsX5_end : List Cond := .code yX5_end cX5_end 4 none :: ([.fieldLink RX5 38 "NoticeStationsModel" "preparedFor" "[I", .fieldLink RX5 32 "NoticeStationsModel" "state" "[I", .fieldLink RX5 41 "NoticeStationsModel" "preparedState" "[I", .fieldLink RX5 48 "NoticeStationsModel" "lock" "[I", .fieldLink RX5 51 "NoticeStationsModel" "open" "[I"] ++ wsX50)
def wsX5_work_r1 : List Cond := [Cond.fieldLink RX5 48 "NoticeStationsModel" "lock" "[I", Cond.fieldLink RX5 51 "NoticeStationsModel" "open" "[I", Cond.fieldLink RX5 32 "NoticeStationsModel" "state" "[I", Cond.fieldLink RX5 57 "NoticeStationsModel" "made" "[I", Cond.fieldLink RX5 63 "NoticeStationsModel" "done" "[I", Cond.fieldLink RX5 66 "NoticeStationsModel" "granted" "[I", Cond.fieldLink RX5 13 "NoticeStationsModel" "length" "[I", Cond.fieldLink RX5 38 "NoticeStationsModel" "preparedFor" "[I", Cond.fieldLink RX5 41 "NoticeStationsModel" "preparedState" "[I", Cond.fieldLink RX5 60 "NoticeStationsModel" "group" "[I", Cond.methodLink RX5 115 yX5_isFree, Cond.instanceMethod yX5_isFree, Cond.selects RX5 yX5_isFree yX5_isFree, Cond.initialized RX5, Cond.code yX5_isFree cX5_isFree 2 (some .boolean), Cond.fieldLink RX5 44 "NoticeStationsModel" "stopped" "[Z", Cond.methodLink RX5 107 yX5_send, Cond.instanceMethod yX5_send, Cond.selects RX5 yX5_send yX5_send, Cond.code yX5_send cX5_send 6 none, Cond.fieldLink RX5 75 "NoticeStationsModel" "kind" "[I", Cond.fieldLink RX5 104 "NoticeStationsModel" "letters" "I", Cond.fieldLink RX5 78 "NoticeStationsModel" "from" "[I", Cond.fieldLink RX5 81 "NoticeStationsModel" "to" "[I"]
def wsX5_work_r2 : List Cond := [Cond.fieldLink RX5 84 "NoticeStationsModel" "write" "[I", Cond.fieldLink RX5 87 "NoticeStationsModel" "with" "[I", Cond.methodLink RX5 96 yX5_has, Cond.static yX5_has, Cond.code yX5_has cX5_has 2 (some .boolean), Cond.methodLink RX5 100 yX5_back, Cond.instanceMethod yX5_back, Cond.selects RX5 yX5_back yX5_back, Cond.code yX5_back cX5_back 4 (some .int), Cond.fieldLink RX5 17 "NoticeStationsModel" "earlier" "[I", Cond.methodLink RX5 150 yX5_finish, Cond.instanceMethod yX5_finish, Cond.selects RX5 yX5_finish yX5_finish, Cond.code yX5_finish cX5_finish 3 none, Cond.methodLink RX5 121 yX5_sendAll, Cond.instanceMethod yX5_sendAll, Cond.selects RX5 yX5_sendAll yX5_sendAll, Cond.code yX5_sendAll cX5_sendAll 7 none, Cond.methodLink RX5 153 yX5_answer, Cond.instanceMethod yX5_answer, Cond.selects RX5 yX5_answer yX5_answer, Cond.code yX5_answer cX5_answer 5 none, Cond.methodLink RX5 161 yX5_contains, Cond.instanceMethod yX5_contains]
def wsX5_work_r3 : List Cond := [Cond.selects RX5 yX5_contains yX5_contains, Cond.code yX5_contains cX5_contains 4 (some .boolean), Cond.fieldLink RX5 23 "NoticeStationsModel" "writeOf" "[I", Cond.methodLink RX5 157 yX5_end, Cond.instanceMethod yX5_end, Cond.selects RX5 yX5_end yX5_end, Cond.code yX5_end cX5_end 4 none]
def wsX5_work : List Cond := .code yX5_work cX5_work 6 none :: ((wsX5_work_r1 ++ (wsX5_work_r2 ++ wsX5_work_r3)) ++ wsX50)
def wsX5_deliver_r1 : List Cond := [Cond.fieldLink RX5 78 "NoticeStationsModel" "from" "[I", Cond.fieldLink RX5 81 "NoticeStationsModel" "to" "[I", Cond.fieldLink RX5 44 "NoticeStationsModel" "stopped" "[Z", Cond.fieldLink RX5 93 "NoticeStationsModel" "thrown" "I", Cond.fieldLink RX5 75 "NoticeStationsModel" "kind" "[I", Cond.fieldLink RX5 63 "NoticeStationsModel" "done" "[I", Cond.fieldLink RX5 60 "NoticeStationsModel" "group" "[I", Cond.fieldLink RX5 84 "NoticeStationsModel" "write" "[I", Cond.fieldLink RX5 87 "NoticeStationsModel" "with" "[I", Cond.methodLink RX5 164 yX5_isLetter, Cond.instanceMethod yX5_isLetter, Cond.selects RX5 yX5_isLetter yX5_isLetter, Cond.initialized RX5, Cond.code yX5_isLetter cX5_isLetter 2 (some .boolean), Cond.fieldLink RX5 104 "NoticeStationsModel" "letters" "I", Cond.methodLink RX5 167 yX5_isJoined, Cond.instanceMethod yX5_isJoined, Cond.selects RX5 yX5_isJoined yX5_isJoined, Cond.code yX5_isJoined cX5_isJoined 6 (some .boolean), Cond.fieldLink RX5 72 "NoticeStationsModel" "mark" "[I", Cond.fieldLink RX5 69 "NoticeStationsModel" "torn" "[Z", Cond.methodLink RX5 170 yX5_counts, Cond.instanceMethod yX5_counts, Cond.selects RX5 yX5_counts yX5_counts]
def wsX5_deliver_r2 : List Cond := [Cond.code yX5_counts cX5_counts 3 (some .boolean), Cond.fieldLink RX5 51 "NoticeStationsModel" "open" "[I", Cond.fieldLink RX5 57 "NoticeStationsModel" "made" "[I", Cond.methodLink RX5 96 yX5_has, Cond.static yX5_has, Cond.code yX5_has cX5_has 2 (some .boolean), Cond.methodLink RX5 142 yX5_many, Cond.static yX5_many, Cond.code yX5_many cX5_many 3 (some .int), Cond.methodLink RX5 118 yX5_isFull, Cond.instanceMethod yX5_isFull, Cond.selects RX5 yX5_isFull yX5_isFull, Cond.code yX5_isFull cX5_isFull 2 (some .boolean), Cond.methodLink RX5 173 yX5_remove, Cond.instanceMethod yX5_remove, Cond.selects RX5 yX5_remove yX5_remove, Cond.code yX5_remove cX5_remove 3 none, Cond.methodLink RX5 176 yX5_work, Cond.instanceMethod yX5_work, Cond.selects RX5 yX5_work yX5_work, Cond.code yX5_work cX5_work 6 none, Cond.fieldLink RX5 48 "NoticeStationsModel" "lock" "[I", Cond.fieldLink RX5 32 "NoticeStationsModel" "state" "[I", Cond.fieldLink RX5 66 "NoticeStationsModel" "granted" "[I"]
def wsX5_deliver_r3 : List Cond := [Cond.fieldLink RX5 13 "NoticeStationsModel" "length" "[I", Cond.fieldLink RX5 38 "NoticeStationsModel" "preparedFor" "[I", Cond.fieldLink RX5 41 "NoticeStationsModel" "preparedState" "[I", Cond.methodLink RX5 115 yX5_isFree, Cond.instanceMethod yX5_isFree, Cond.selects RX5 yX5_isFree yX5_isFree, Cond.code yX5_isFree cX5_isFree 2 (some .boolean), Cond.methodLink RX5 107 yX5_send, Cond.instanceMethod yX5_send, Cond.selects RX5 yX5_send yX5_send, Cond.code yX5_send cX5_send 6 none, Cond.methodLink RX5 100 yX5_back, Cond.instanceMethod yX5_back, Cond.selects RX5 yX5_back yX5_back, Cond.code yX5_back cX5_back 4 (some .int), Cond.fieldLink RX5 17 "NoticeStationsModel" "earlier" "[I", Cond.methodLink RX5 150 yX5_finish, Cond.instanceMethod yX5_finish, Cond.selects RX5 yX5_finish yX5_finish, Cond.code yX5_finish cX5_finish 3 none, Cond.methodLink RX5 121 yX5_sendAll, Cond.instanceMethod yX5_sendAll, Cond.selects RX5 yX5_sendAll yX5_sendAll, Cond.code yX5_sendAll cX5_sendAll 7 none]
def wsX5_deliver_r4 : List Cond := [Cond.methodLink RX5 153 yX5_answer, Cond.instanceMethod yX5_answer, Cond.selects RX5 yX5_answer yX5_answer, Cond.code yX5_answer cX5_answer 5 none, Cond.methodLink RX5 161 yX5_contains, Cond.instanceMethod yX5_contains, Cond.selects RX5 yX5_contains yX5_contains, Cond.code yX5_contains cX5_contains 4 (some .boolean), Cond.fieldLink RX5 23 "NoticeStationsModel" "writeOf" "[I", Cond.methodLink RX5 157 yX5_end, Cond.instanceMethod yX5_end, Cond.selects RX5 yX5_end yX5_end, Cond.code yX5_end cX5_end 4 none]
def wsX5_deliver : List Cond := .code yX5_deliver cX5_deliver 8 (some .int) :: ((wsX5_deliver_r1 ++ (wsX5_deliver_r2 ++ (wsX5_deliver_r3 ++ wsX5_deliver_r4))) ++ wsX50)
def wsX5_lose : List Cond := .code yX5_lose cX5_lose 2 none :: ([.fieldLink RX5 93 "NoticeStationsModel" "thrown" "I", .methodLink RX5 164 yX5_isLetter, .instanceMethod yX5_isLetter, .selects RX5 yX5_isLetter yX5_isLetter, .initialized RX5, .code yX5_isLetter cX5_isLetter 2 (some .boolean), .fieldLink RX5 104 "NoticeStationsModel" "letters" "I", .methodLink RX5 173 yX5_remove, .instanceMethod yX5_remove, .selects RX5 yX5_remove yX5_remove, .code yX5_remove cX5_remove 3 none, .fieldLink RX5 75 "NoticeStationsModel" "kind" "[I", .fieldLink RX5 78 "NoticeStationsModel" "from" "[I", .fieldLink RX5 81 "NoticeStationsModel" "to" "[I", .fieldLink RX5 84 "NoticeStationsModel" "write" "[I", .fieldLink RX5 87 "NoticeStationsModel" "with" "[I"] ++ wsX50)
def wsX5_twin : List Cond := .code yX5_twin cX5_twin 2 none :: ([.fieldLink RX5 93 "NoticeStationsModel" "thrown" "I", .fieldLink RX5 75 "NoticeStationsModel" "kind" "[I", .fieldLink RX5 78 "NoticeStationsModel" "from" "[I", .fieldLink RX5 81 "NoticeStationsModel" "to" "[I", .fieldLink RX5 84 "NoticeStationsModel" "write" "[I", .fieldLink RX5 87 "NoticeStationsModel" "with" "[I", .methodLink RX5 164 yX5_isLetter, .instanceMethod yX5_isLetter, .selects RX5 yX5_isLetter yX5_isLetter, .initialized RX5, .code yX5_isLetter cX5_isLetter 2 (some .boolean), .fieldLink RX5 104 "NoticeStationsModel" "letters" "I", .methodLink RX5 118 yX5_isFull, .instanceMethod yX5_isFull, .selects RX5 yX5_isFull yX5_isFull, .code yX5_isFull cX5_isFull 2 (some .boolean), .methodLink RX5 107 yX5_send, .instanceMethod yX5_send, .selects RX5 yX5_send yX5_send, .code yX5_send cX5_send 6 none] ++ wsX50)
def wsX5_letter : List Cond := .code yX5_letter cX5_letter 3 (some .int) :: ([.fieldLink RX5 93 "NoticeStationsModel" "thrown" "I", .fieldLink RX5 75 "NoticeStationsModel" "kind" "[I", .fieldLink RX5 78 "NoticeStationsModel" "from" "[I", .fieldLink RX5 81 "NoticeStationsModel" "to" "[I", .fieldLink RX5 84 "NoticeStationsModel" "write" "[I", .methodLink RX5 164 yX5_isLetter, .instanceMethod yX5_isLetter, .selects RX5 yX5_isLetter yX5_isLetter, .initialized RX5, .code yX5_isLetter cX5_isLetter 2 (some .boolean), .fieldLink RX5 104 "NoticeStationsModel" "letters" "I"] ++ wsX50)
def wsX5_count : List Cond := .code yX5_count cX5_count 2 (some .int) :: ([.fieldLink RX5 93 "NoticeStationsModel" "thrown" "I", .fieldLink RX5 13 "NoticeStationsModel" "length" "[I", .fieldLink RX5 32 "NoticeStationsModel" "state" "[I", .methodLink RX5 111 yX5_isOne, .static yX5_isOne, .initialized RX5, .code yX5_isOne cX5_isOne 1 (some .boolean)] ++ wsX50)
def wsX5_entry : List Cond := .code yX5_entry cX5_entry 5 (some .int) :: ([.fieldLink RX5 13 "NoticeStationsModel" "length" "[I", .fieldLink RX5 32 "NoticeStationsModel" "state" "[I", .fieldLink RX5 93 "NoticeStationsModel" "thrown" "I", .fieldLink RX5 23 "NoticeStationsModel" "writeOf" "[I", .fieldLink RX5 20 "NoticeStationsModel" "entryOf" "[I", .methodLink RX5 111 yX5_isOne, .static yX5_isOne, .initialized RX5, .code yX5_isOne cX5_isOne 1 (some .boolean), .methodLink RX5 100 yX5_back, .instanceMethod yX5_back, .selects RX5 yX5_back yX5_back, .code yX5_back cX5_back 4 (some .int), .fieldLink RX5 17 "NoticeStationsModel" "earlier" "[I"] ++ wsX50)
def wsX5_about : List Cond := .code yX5_about cX5_about 3 (some .int) :: ([.fieldLink RX5 93 "NoticeStationsModel" "thrown" "I", .fieldLink RX5 26 "NoticeStationsModel" "sizeOf" "[I", .fieldLink RX5 32 "NoticeStationsModel" "state" "[I", .fieldLink RX5 29 "NoticeStationsModel" "namedOf" "[I", .fieldLink RX5 35 "NoticeStationsModel" "began" "[I", .fieldLink RX5 38 "NoticeStationsModel" "preparedFor" "[I", .fieldLink RX5 48 "NoticeStationsModel" "lock" "[I", .fieldLink RX5 51 "NoticeStationsModel" "open" "[I", .fieldLink RX5 44 "NoticeStationsModel" "stopped" "[Z", .methodLink RX5 111 yX5_isOne, .static yX5_isOne, .initialized RX5, .code yX5_isOne cX5_isOne 1 (some .boolean)] ++ wsX50)
def wsX5_allowed_r1 : List Cond := [Cond.fieldLink RX5 93 "NoticeStationsModel" "thrown" "I", Cond.fieldLink RX5 90 "NoticeStationsModel" "asked" "[I", Cond.fieldLink RX5 32 "NoticeStationsModel" "state" "[I", Cond.methodLink RX5 96 yX5_has, Cond.static yX5_has, Cond.initialized RX5, Cond.code yX5_has cX5_has 2 (some .boolean), Cond.methodLink RX5 115 yX5_isFree, Cond.instanceMethod yX5_isFree, Cond.selects RX5 yX5_isFree yX5_isFree, Cond.code yX5_isFree cX5_isFree 2 (some .boolean), Cond.fieldLink RX5 44 "NoticeStationsModel" "stopped" "[Z", Cond.fieldLink RX5 48 "NoticeStationsModel" "lock" "[I", Cond.fieldLink RX5 38 "NoticeStationsModel" "preparedFor" "[I", Cond.methodLink RX5 138 yX5_mayGoOn, Cond.instanceMethod yX5_mayGoOn, Cond.selects RX5 yX5_mayGoOn yX5_mayGoOn, Cond.code yX5_mayGoOn cX5_mayGoOn 4 (some .boolean), Cond.fieldLink RX5 13 "NoticeStationsModel" "length" "[I", Cond.fieldLink RX5 29 "NoticeStationsModel" "namedOf" "[I", Cond.fieldLink RX5 26 "NoticeStationsModel" "sizeOf" "[I", Cond.methodLink RX5 130 yX5_greatest, Cond.instanceMethod yX5_greatest, Cond.selects RX5 yX5_greatest yX5_greatest]
def wsX5_allowed_r2 : List Cond := [Cond.code yX5_greatest cX5_greatest 3 (some .int)]
def wsX5_allowed : List Cond := .code yX5_allowed cX5_allowed 4 (some .boolean) :: ((wsX5_allowed_r1 ++ wsX5_allowed_r2) ++ wsX50)
def wsX5_inForce : List Cond := .code yX5_inForce cX5_inForce 7 (some .int) :: ([.fieldLink RX5 93 "NoticeStationsModel" "thrown" "I", .fieldLink RX5 13 "NoticeStationsModel" "length" "[I", .fieldLink RX5 32 "NoticeStationsModel" "state" "[I", .fieldLink RX5 20 "NoticeStationsModel" "entryOf" "[I", .methodLink RX5 111 yX5_isOne, .static yX5_isOne, .initialized RX5, .code yX5_isOne cX5_isOne 1 (some .boolean), .methodLink RX5 127 yX5_isNotice, .instanceMethod yX5_isNotice, .selects RX5 yX5_isNotice yX5_isNotice, .code yX5_isNotice cX5_isNotice 4 (some .boolean), .fieldLink RX5 17 "NoticeStationsModel" "earlier" "[I", .methodLink RX5 100 yX5_back, .instanceMethod yX5_back, .selects RX5 yX5_back yX5_back, .code yX5_back cX5_back 4 (some .int)] ++ wsX50)
def wsJ9_max_7cf53 : List Cond := .code yJ9_max_7cf53 cJ9_max_7cf53 2 (some .int) :: ([])
def wsJ9_min_7cf53 : List Cond := .code yJ9_min_7cf53 cJ9_min_7cf53 2 (some .int) :: ([])
def wsL_cable : List Cond := .codeWith yL_cable cL_cable 6 (some .int) [(0, 19, 22, 13)] :: ([.classLink RL 13 "java/lang/IndexOutOfBoundsException", .methodLink RL 7 yX4_cable, .instanceMethod yX4_cable, .selects RX4 yX4_cable yX4_cable, .initialized RX4, .code yX4_cable cX4_cable 5 (some .boolean), .fieldLink RX4 15 "NoticeStations" "cables" "[I", .methodLink RX4 38 yX4_requireTwoStations, .instanceMethod yX4_requireTwoStations, .selects RX4 yX4_requireTwoStations yX4_requireTwoStations, .code yX4_requireTwoStations cX4_requireTwoStations 3 none, .classLink RX4 247 "java/lang/IndexOutOfBoundsException", .initialized "java/lang/IndexOutOfBoundsException", .methodLink RX4 46 yX4_isBelow, .static yX4_isBelow, .code yX4_isBelow cX4_isBelow 2 (some .boolean)] ++ wsX40 ++ (vx_atS RX4 251 "java/lang/IndexOutOfBoundsException" ["java/lang/RuntimeException", "java/lang/Exception"]).filter goodWord)
def wsL_write_r1 : List Cond := [Cond.classLink RL 13 "java/lang/IndexOutOfBoundsException", Cond.classLink RL 19 "java/lang/IllegalArgumentException", Cond.classLink RL 21 "java/lang/IllegalStateException", Cond.classLink RL 23 "java/lang/UnsupportedOperationException", Cond.methodLink RL 15 yX4_write, Cond.instanceMethod yX4_write, Cond.selects RX4 yX4_write yX4_write, Cond.initialized RX4, Cond.code yX4_write cX4_write 6 (some .int), Cond.classLink RX4 50 "java/lang/IllegalArgumentException", Cond.initialized "java/lang/IllegalArgumentException", Cond.methodLink RX4 42 yX4_stationAt, Cond.instanceMethod yX4_stationAt, Cond.selects RX4 yX4_stationAt yX4_stationAt, Cond.code yX4_stationAt cX4_stationAt 2 (some (.object "NoticeStations$Station")), Cond.classLink RX4 247 "java/lang/IndexOutOfBoundsException", Cond.initialized "java/lang/IndexOutOfBoundsException", Cond.fieldLink RX4 11 "NoticeStations" "stations" "[LNoticeStations$Station;", Cond.methodLink RX4 46 yX4_isBelow, Cond.static yX4_isBelow, Cond.code yX4_isBelow cX4_isBelow 2 (some .boolean), Cond.methodLink RX4 57 yX4_beginWrite, Cond.instanceMethod yX4_beginWrite, Cond.selects RX4 yX4_beginWrite yX4_beginWrite]
def wsL_write_r2 : List Cond := [Cond.code yX4_beginWrite cX4_beginWrite 4 (some .int), Cond.classLink RX4 91 "java/lang/IllegalStateException", Cond.initialized "java/lang/IllegalStateException", Cond.classLink RX4 111 "java/lang/UnsupportedOperationException", Cond.initialized "java/lang/UnsupportedOperationException", Cond.classLink RX4 86 RX1, Cond.instantiable RX1 5, Cond.initialized RX1, Cond.instanceMethod yX3_isFree, Cond.initialized RX3, Cond.selects RX3 yX3_isFree yX3_isFree, Cond.code yX3_isFree cX3_isFree 1 (some .boolean), Cond.fieldLink RX3 9 "NoticeStations$Station" "up" "Z", Cond.fieldLink RX3 26 "NoticeStations$Station" "lock" "I", Cond.methodLink RX3 39 yX3_isInDoubt, Cond.instanceMethod yX3_isInDoubt, Cond.selects RX3 yX3_isInDoubt yX3_isInDoubt, Cond.code yX3_isInDoubt cX3_isInDoubt 1 (some .boolean), Cond.fieldLink RX3 22 "NoticeStations$Station" "preparedStanding" "LNoticeStations$Standing;", Cond.instanceMethod yX2_length, Cond.initialized RX2, Cond.selects RX2 yX2_length yX2_length, Cond.code yX2_length cX2_length 1 (some .int), Cond.fieldLink RX2 7 "NoticeStations$Standing" "entries" "[I"]
def wsL_write_r3 : List Cond := [Cond.methodLink RX4 119 yX4_requireRoomFor, Cond.instanceMethod yX4_requireRoomFor, Cond.selects RX4 yX4_requireRoomFor yX4_requireRoomFor, Cond.code yX4_requireRoomFor cX4_requireRoomFor 2 none, Cond.fieldLink RX4 22 "NoticeStations" "row" "Ljava/util/ArrayList;", Cond.methodLink RX4 175 yJx4a65c_size_8abf5, Cond.instanceMethod yJx4a65c_size_8abf5, Cond.selects RJx4a65c yJx4a65c_size_8abf5 yJx4a65c_size_8abf5, Cond.initialized RJx4a65c, Cond.code yJx4a65c_size_8abf5 cJx4a65c_size_8abf5 1 (some .int), Cond.fieldLink RJx4a65c 48 "java/util/ArrayList" "size" "I", Cond.instanceMethod yX1_init, Cond.code yX1_init cX1_init 3 none, Cond.methodLink RX1 3 objectInit, Cond.instanceMethod objectInit, Cond.code objectInit ⟨#[0xb1]⟩ 1 none, Cond.classLink RX1 9 RX2, Cond.fieldLink RX1 11 "NoticeStations$OpenWrite" "granted" "[LNoticeStations$Standing;", Cond.arrayClass .boolean, Cond.fieldLink RX1 17 "NoticeStations$OpenWrite" "prepared" "[Z", Cond.fieldLink RX1 21 "NoticeStations$OpenWrite" "next" "LNoticeStations$Standing;", Cond.fieldLink RX1 25 "NoticeStations$OpenWrite" "number" "I", Cond.fieldLink RX1 29 "NoticeStations$OpenWrite" "entry" "I", Cond.methodLink RX4 131 yX4_sendAwaited]
def wsL_write_r4 : List Cond := [Cond.instanceMethod yX4_sendAwaited, Cond.selects RX4 yX4_sendAwaited yX4_sendAwaited, Cond.code yX4_sendAwaited cX4_sendAwaited 4 none, Cond.instanceMethod yX1_awaits, Cond.selects RX1 yX1_awaits yX1_awaits, Cond.code yX1_awaits cX1_awaits 2 (some .boolean), Cond.methodLink RX1 32 yX1_isCollecting, Cond.instanceMethod yX1_isCollecting, Cond.selects RX1 yX1_isCollecting yX1_isCollecting, Cond.code yX1_isCollecting cX1_isCollecting 1 (some .boolean), Cond.methodLink RX1 36 yX1_isOfGroup, Cond.instanceMethod yX1_isOfGroup, Cond.selects RX1 yX1_isOfGroup yX1_isOfGroup, Cond.code yX1_isOfGroup cX1_isOfGroup 2 (some .boolean), Cond.methodLink RX4 148 yX4_send, Cond.instanceMethod yX4_send, Cond.selects RX4 yX4_send yX4_send, Cond.code yX4_send cX4_send 6 none, Cond.classLink RX4 183 RX0, Cond.instantiable RX0 5, Cond.initialized RX0, Cond.instanceMethod yX0_init, Cond.code yX0_init cX0_init 6 none, Cond.methodLink RX0 1 objectInit]
def wsL_write_r5 : List Cond := [Cond.fieldLink RX0 7 "NoticeStations$Letter" "kind" "I", Cond.fieldLink RX0 13 "NoticeStations$Letter" "from" "I", Cond.fieldLink RX0 16 "NoticeStations$Letter" "to" "I", Cond.fieldLink RX0 19 "NoticeStations$Letter" "number" "I", Cond.fieldLink RX0 22 "NoticeStations$Letter" "standing" "LNoticeStations$Standing;", Cond.methodLink RX4 213 yJx4a65c_add_9ea2d, Cond.instanceMethod yJx4a65c_add_9ea2d, Cond.selects RJx4a65c yJx4a65c_add_9ea2d yJx4a65c_add_9ea2d, Cond.code yJx4a65c_add_9ea2d cJx4a65c_add_9ea2d 2 (some .boolean), Cond.fieldLink RJx4a65c 63 "java/util/ArrayList" "modCount" "I", Cond.sameField "java/util/ArrayList" "java/util/AbstractList" "modCount" "I", Cond.fieldLink RJx4a65c 9 "java/util/ArrayList" "elementData" "[Ljava/lang/Object;", Cond.methodLink RJx4a65c 131 yJx4a65c_add_72be8, Cond.instanceMethod yJx4a65c_add_72be8, Cond.selects RJx4a65c yJx4a65c_add_72be8 yJx4a65c_add_72be8, Cond.code yJx4a65c_add_72be8 cJx4a65c_add_72be8 4 none, Cond.methodLink RJx4a65c 129 yJx4a65c_grow_d5877, Cond.instanceMethod yJx4a65c_grow_d5877, Cond.selects RJx4a65c yJx4a65c_grow_d5877 yJx4a65c_grow_d5877, Cond.code yJx4a65c_grow_d5877 cJx4a65c_grow_d5877 1 (some (.array (.object "java/lang/Object"))), Cond.methodLink RJx4a65c 69 yJx4a65c_grow_92f84, Cond.instanceMethod yJx4a65c_grow_92f84, Cond.selects RJx4a65c yJx4a65c_grow_92f84 yJx4a65c_grow_92f84, Cond.code yJx4a65c_grow_92f84 cJx4a65c_grow_92f84 4 (some (.array (.object "java/lang/Object")))]
def wsL_write_r6 : List Cond := [Cond.fieldLink RJx4a65c 39 "java/util/ArrayList" "DEFAULTCAPACITY_EMPTY_ELEMENTDATA" "[Ljava/lang/Object;", Cond.methodLink RJx4a65c 79 Lib.Math.max.name, Cond.static Lib.Math.max.name, Cond.initialized "java/lang/Math", Cond.code Lib.Math.max.name Lib.Math.max.code 2 (some .int), Cond.classLink RJx4a65c 7 "java/lang/Object", Cond.methodLink RJx4a65c 73 yJ8_newLength_cabcc, Cond.static yJ8_newLength_cabcc, Cond.initialized RJ8, Cond.code yJ8_newLength_cabcc cJ8_newLength_cabcc 4 (some .int), Cond.methodLink RJ8 194 Lib.Math.max.name, Cond.constant RJ8 200 (2147483639), Cond.methodLink RJ8 201 yJ8_hugeLength_7cf53, Cond.static yJ8_hugeLength_7cf53, Cond.code yJ8_hugeLength_7cf53 cJ8_hugeLength_7cf53 3 (some .int), Cond.methodLink RJx4a65c 66 yJ7_copyOf_1904c, Cond.static yJ7_copyOf_1904c, Cond.initialized RJ7, Cond.code yJ7_copyOf_1904c cJ7_copyOf_1904c 2 (some (.array (.object "java/lang/Object"))), Cond.methodLink RJ7 86 ⟨"java/lang/Object", "getClass", "()Ljava/lang/Class;"⟩, Cond.selects "[Ljava/lang/Object;" ⟨"java/lang/Object", "getClass", "()Ljava/lang/Class;"⟩ ⟨"java/lang/Object", "getClass", "()Ljava/lang/Class;"⟩, Cond.instanceMethod ⟨"java/lang/Object", "getClass", "()Ljava/lang/Class;"⟩, Cond.native ⟨"java/lang/Object", "getClass", "()Ljava/lang/Class;"⟩, Cond.methodLink RJ7 300 yJ7_copyOf_6403c]
def wsL_write_r7 : List Cond := [Cond.static yJ7_copyOf_6403c, Cond.code yJ7_copyOf_6403c cJ7_copyOf_6403c 4 (some (.array (.object "java/lang/Object"))), Cond.classLink RJ7 110 "[Ljava/lang/Object;", Cond.classLink RJ7 2 "java/lang/Object", Cond.methodLink RJ7 304 Lib.Math.min.name, Cond.static Lib.Math.min.name, Cond.code Lib.Math.min.name Lib.Math.min.code 2 (some .int), Cond.methodLink RJ7 150 arraycopyName, Cond.native arraycopyName, Cond.static arraycopyName, Cond.initialized "java/lang/System"]
def wsL_write : List Cond := .codeWith yL_write cL_write 7 (some .int) [(0, 14, 17, 13), (0, 14, 21, 19), (0, 14, 25, 21), (0, 14, 29, 23)] :: ((wsL_write_r1 ++ (wsL_write_r2 ++ (wsL_write_r3 ++ (wsL_write_r4 ++ (wsL_write_r5 ++ (wsL_write_r6 ++ wsL_write_r7)))))) ++ wsX40 ++ wsX30 ++ wsX10 ++ wsX20 ++ wsJx4a65c0 ++ wsX00 ++ (vx_atS RX4 54 "java/lang/IllegalArgumentException" ["java/lang/RuntimeException", "java/lang/Exception"]).filter goodWord ++ (vx_atS RX4 251 "java/lang/IndexOutOfBoundsException" ["java/lang/RuntimeException", "java/lang/Exception"]).filter goodWord ++ (vx_atS RX4 95 "java/lang/IllegalStateException" ["java/lang/RuntimeException", "java/lang/Exception"]).filter goodWord ++ (vx_atS RX4 115 "java/lang/UnsupportedOperationException" ["java/lang/RuntimeException", "java/lang/Exception"]).filter goodWord)
def wsL_withdraw_r1 : List Cond := [Cond.classLink RL 13 "java/lang/IndexOutOfBoundsException", Cond.classLink RL 29 "java/util/NoSuchElementException", Cond.classLink RL 21 "java/lang/IllegalStateException", Cond.classLink RL 23 "java/lang/UnsupportedOperationException", Cond.methodLink RL 25 yX4_withdraw, Cond.instanceMethod yX4_withdraw, Cond.selects RX4 yX4_withdraw yX4_withdraw, Cond.initialized RX4, Cond.code yX4_withdraw cX4_withdraw 4 (some .int), Cond.classLink RX4 72 "java/util/NoSuchElementException", Cond.initialized "java/util/NoSuchElementException", Cond.methodLink RX4 42 yX4_stationAt, Cond.instanceMethod yX4_stationAt, Cond.selects RX4 yX4_stationAt yX4_stationAt, Cond.code yX4_stationAt cX4_stationAt 2 (some (.object "NoticeStations$Station")), Cond.classLink RX4 247 "java/lang/IndexOutOfBoundsException", Cond.initialized "java/lang/IndexOutOfBoundsException", Cond.fieldLink RX4 11 "NoticeStations" "stations" "[LNoticeStations$Station;", Cond.methodLink RX4 46 yX4_isBelow, Cond.static yX4_isBelow, Cond.code yX4_isBelow cX4_isBelow 2 (some .boolean), Cond.instanceMethod yX2_hasNoticeAt, Cond.initialized RX2, Cond.selects RX2 yX2_hasNoticeAt yX2_hasNoticeAt]
def wsL_withdraw_r2 : List Cond := [Cond.code yX2_hasNoticeAt cX2_hasNoticeAt 2 (some .boolean), Cond.fieldLink RX2 7 "NoticeStations$Standing" "entries" "[I", Cond.instanceMethod yX2_isWithdrawn, Cond.selects RX2 yX2_isWithdrawn yX2_isWithdrawn, Cond.code yX2_isWithdrawn cX2_isWithdrawn 4 (some .boolean), Cond.static yX4_withdrawalOf, Cond.code yX4_withdrawalOf cX4_withdrawalOf 1 (some .int), Cond.methodLink RX4 77 yX4_withdrawalOf, Cond.methodLink RX4 57 yX4_beginWrite, Cond.instanceMethod yX4_beginWrite, Cond.selects RX4 yX4_beginWrite yX4_beginWrite, Cond.code yX4_beginWrite cX4_beginWrite 4 (some .int), Cond.classLink RX4 91 "java/lang/IllegalStateException", Cond.initialized "java/lang/IllegalStateException", Cond.classLink RX4 111 "java/lang/UnsupportedOperationException", Cond.initialized "java/lang/UnsupportedOperationException", Cond.classLink RX4 86 RX1, Cond.instantiable RX1 5, Cond.initialized RX1, Cond.instanceMethod yX3_isFree, Cond.initialized RX3, Cond.selects RX3 yX3_isFree yX3_isFree, Cond.code yX3_isFree cX3_isFree 1 (some .boolean), Cond.fieldLink RX3 9 "NoticeStations$Station" "up" "Z"]
def wsL_withdraw_r3 : List Cond := [Cond.fieldLink RX3 26 "NoticeStations$Station" "lock" "I", Cond.methodLink RX3 39 yX3_isInDoubt, Cond.instanceMethod yX3_isInDoubt, Cond.selects RX3 yX3_isInDoubt yX3_isInDoubt, Cond.code yX3_isInDoubt cX3_isInDoubt 1 (some .boolean), Cond.fieldLink RX3 22 "NoticeStations$Station" "preparedStanding" "LNoticeStations$Standing;", Cond.instanceMethod yX2_length, Cond.selects RX2 yX2_length yX2_length, Cond.code yX2_length cX2_length 1 (some .int), Cond.methodLink RX4 119 yX4_requireRoomFor, Cond.instanceMethod yX4_requireRoomFor, Cond.selects RX4 yX4_requireRoomFor yX4_requireRoomFor, Cond.code yX4_requireRoomFor cX4_requireRoomFor 2 none, Cond.fieldLink RX4 22 "NoticeStations" "row" "Ljava/util/ArrayList;", Cond.methodLink RX4 175 yJx4a65c_size_8abf5, Cond.instanceMethod yJx4a65c_size_8abf5, Cond.selects RJx4a65c yJx4a65c_size_8abf5 yJx4a65c_size_8abf5, Cond.initialized RJx4a65c, Cond.code yJx4a65c_size_8abf5 cJx4a65c_size_8abf5 1 (some .int), Cond.fieldLink RJx4a65c 48 "java/util/ArrayList" "size" "I", Cond.instanceMethod yX1_init, Cond.code yX1_init cX1_init 3 none, Cond.methodLink RX1 3 objectInit, Cond.instanceMethod objectInit]
def wsL_withdraw_r4 : List Cond := [Cond.code objectInit ⟨#[0xb1]⟩ 1 none, Cond.classLink RX1 9 RX2, Cond.fieldLink RX1 11 "NoticeStations$OpenWrite" "granted" "[LNoticeStations$Standing;", Cond.arrayClass .boolean, Cond.fieldLink RX1 17 "NoticeStations$OpenWrite" "prepared" "[Z", Cond.fieldLink RX1 21 "NoticeStations$OpenWrite" "next" "LNoticeStations$Standing;", Cond.fieldLink RX1 25 "NoticeStations$OpenWrite" "number" "I", Cond.fieldLink RX1 29 "NoticeStations$OpenWrite" "entry" "I", Cond.methodLink RX4 131 yX4_sendAwaited, Cond.instanceMethod yX4_sendAwaited, Cond.selects RX4 yX4_sendAwaited yX4_sendAwaited, Cond.code yX4_sendAwaited cX4_sendAwaited 4 none, Cond.instanceMethod yX1_awaits, Cond.selects RX1 yX1_awaits yX1_awaits, Cond.code yX1_awaits cX1_awaits 2 (some .boolean), Cond.methodLink RX1 32 yX1_isCollecting, Cond.instanceMethod yX1_isCollecting, Cond.selects RX1 yX1_isCollecting yX1_isCollecting, Cond.code yX1_isCollecting cX1_isCollecting 1 (some .boolean), Cond.methodLink RX1 36 yX1_isOfGroup, Cond.instanceMethod yX1_isOfGroup, Cond.selects RX1 yX1_isOfGroup yX1_isOfGroup, Cond.code yX1_isOfGroup cX1_isOfGroup 2 (some .boolean), Cond.methodLink RX4 148 yX4_send]
def wsL_withdraw_r5 : List Cond := [Cond.instanceMethod yX4_send, Cond.selects RX4 yX4_send yX4_send, Cond.code yX4_send cX4_send 6 none, Cond.classLink RX4 183 RX0, Cond.instantiable RX0 5, Cond.initialized RX0, Cond.instanceMethod yX0_init, Cond.code yX0_init cX0_init 6 none, Cond.methodLink RX0 1 objectInit, Cond.fieldLink RX0 7 "NoticeStations$Letter" "kind" "I", Cond.fieldLink RX0 13 "NoticeStations$Letter" "from" "I", Cond.fieldLink RX0 16 "NoticeStations$Letter" "to" "I", Cond.fieldLink RX0 19 "NoticeStations$Letter" "number" "I", Cond.fieldLink RX0 22 "NoticeStations$Letter" "standing" "LNoticeStations$Standing;", Cond.methodLink RX4 213 yJx4a65c_add_9ea2d, Cond.instanceMethod yJx4a65c_add_9ea2d, Cond.selects RJx4a65c yJx4a65c_add_9ea2d yJx4a65c_add_9ea2d, Cond.code yJx4a65c_add_9ea2d cJx4a65c_add_9ea2d 2 (some .boolean), Cond.fieldLink RJx4a65c 63 "java/util/ArrayList" "modCount" "I", Cond.sameField "java/util/ArrayList" "java/util/AbstractList" "modCount" "I", Cond.fieldLink RJx4a65c 9 "java/util/ArrayList" "elementData" "[Ljava/lang/Object;", Cond.methodLink RJx4a65c 131 yJx4a65c_add_72be8, Cond.instanceMethod yJx4a65c_add_72be8, Cond.selects RJx4a65c yJx4a65c_add_72be8 yJx4a65c_add_72be8]
def wsL_withdraw_r6 : List Cond := [Cond.code yJx4a65c_add_72be8 cJx4a65c_add_72be8 4 none, Cond.methodLink RJx4a65c 129 yJx4a65c_grow_d5877, Cond.instanceMethod yJx4a65c_grow_d5877, Cond.selects RJx4a65c yJx4a65c_grow_d5877 yJx4a65c_grow_d5877, Cond.code yJx4a65c_grow_d5877 cJx4a65c_grow_d5877 1 (some (.array (.object "java/lang/Object"))), Cond.methodLink RJx4a65c 69 yJx4a65c_grow_92f84, Cond.instanceMethod yJx4a65c_grow_92f84, Cond.selects RJx4a65c yJx4a65c_grow_92f84 yJx4a65c_grow_92f84, Cond.code yJx4a65c_grow_92f84 cJx4a65c_grow_92f84 4 (some (.array (.object "java/lang/Object"))), Cond.fieldLink RJx4a65c 39 "java/util/ArrayList" "DEFAULTCAPACITY_EMPTY_ELEMENTDATA" "[Ljava/lang/Object;", Cond.methodLink RJx4a65c 79 Lib.Math.max.name, Cond.static Lib.Math.max.name, Cond.initialized "java/lang/Math", Cond.code Lib.Math.max.name Lib.Math.max.code 2 (some .int), Cond.classLink RJx4a65c 7 "java/lang/Object", Cond.methodLink RJx4a65c 73 yJ8_newLength_cabcc, Cond.static yJ8_newLength_cabcc, Cond.initialized RJ8, Cond.code yJ8_newLength_cabcc cJ8_newLength_cabcc 4 (some .int), Cond.methodLink RJ8 194 Lib.Math.max.name, Cond.constant RJ8 200 (2147483639), Cond.methodLink RJ8 201 yJ8_hugeLength_7cf53, Cond.static yJ8_hugeLength_7cf53, Cond.code yJ8_hugeLength_7cf53 cJ8_hugeLength_7cf53 3 (some .int)]
def wsL_withdraw_r7 : List Cond := [Cond.methodLink RJx4a65c 66 yJ7_copyOf_1904c, Cond.static yJ7_copyOf_1904c, Cond.initialized RJ7, Cond.code yJ7_copyOf_1904c cJ7_copyOf_1904c 2 (some (.array (.object "java/lang/Object"))), Cond.methodLink RJ7 86 ⟨"java/lang/Object", "getClass", "()Ljava/lang/Class;"⟩, Cond.selects "[Ljava/lang/Object;" ⟨"java/lang/Object", "getClass", "()Ljava/lang/Class;"⟩ ⟨"java/lang/Object", "getClass", "()Ljava/lang/Class;"⟩, Cond.instanceMethod ⟨"java/lang/Object", "getClass", "()Ljava/lang/Class;"⟩, Cond.native ⟨"java/lang/Object", "getClass", "()Ljava/lang/Class;"⟩, Cond.methodLink RJ7 300 yJ7_copyOf_6403c, Cond.static yJ7_copyOf_6403c, Cond.code yJ7_copyOf_6403c cJ7_copyOf_6403c 4 (some (.array (.object "java/lang/Object"))), Cond.classLink RJ7 110 "[Ljava/lang/Object;", Cond.classLink RJ7 2 "java/lang/Object", Cond.methodLink RJ7 304 Lib.Math.min.name, Cond.static Lib.Math.min.name, Cond.code Lib.Math.min.name Lib.Math.min.code 2 (some .int), Cond.methodLink RJ7 150 arraycopyName, Cond.native arraycopyName, Cond.static arraycopyName, Cond.initialized "java/lang/System"]
def wsL_withdraw : List Cond := .codeWith yL_withdraw cL_withdraw 5 (some .int) [(0, 10, 13, 13), (0, 10, 17, 29), (0, 10, 21, 21), (0, 10, 25, 23)] :: ((wsL_withdraw_r1 ++ (wsL_withdraw_r2 ++ (wsL_withdraw_r3 ++ (wsL_withdraw_r4 ++ (wsL_withdraw_r5 ++ (wsL_withdraw_r6 ++ wsL_withdraw_r7)))))) ++ wsX30 ++ wsX40 ++ wsX20 ++ wsX10 ++ wsJx4a65c0 ++ wsX00 ++ (vx_atS RX4 76 "java/util/NoSuchElementException" ["java/lang/RuntimeException", "java/lang/Exception"]).filter goodWord ++ (vx_atS RX4 251 "java/lang/IndexOutOfBoundsException" ["java/lang/RuntimeException", "java/lang/Exception"]).filter goodWord ++ (vx_atS RX4 95 "java/lang/IllegalStateException" ["java/lang/RuntimeException", "java/lang/Exception"]).filter goodWord ++ (vx_atS RX4 115 "java/lang/UnsupportedOperationException" ["java/lang/RuntimeException", "java/lang/Exception"]).filter goodWord)
def wsL_decide_r1 : List Cond := [Cond.classLink RL 13 "java/lang/IndexOutOfBoundsException", Cond.classLink RL 21 "java/lang/IllegalStateException", Cond.classLink RL 23 "java/lang/UnsupportedOperationException", Cond.methodLink RL 31 yX4_decide, Cond.instanceMethod yX4_decide, Cond.selects RX4 yX4_decide yX4_decide, Cond.initialized RX4, Cond.code yX4_decide cX4_decide 5 (some .boolean), Cond.classLink RX4 91 "java/lang/IllegalStateException", Cond.initialized "java/lang/IllegalStateException", Cond.classLink RX4 111 "java/lang/UnsupportedOperationException", Cond.initialized "java/lang/UnsupportedOperationException", Cond.methodLink RX4 42 yX4_stationAt, Cond.instanceMethod yX4_stationAt, Cond.selects RX4 yX4_stationAt yX4_stationAt, Cond.code yX4_stationAt cX4_stationAt 2 (some (.object "NoticeStations$Station")), Cond.classLink RX4 247 "java/lang/IndexOutOfBoundsException", Cond.initialized "java/lang/IndexOutOfBoundsException", Cond.fieldLink RX4 11 "NoticeStations" "stations" "[LNoticeStations$Station;", Cond.methodLink RX4 46 yX4_isBelow, Cond.static yX4_isBelow, Cond.code yX4_isBelow cX4_isBelow 2 (some .boolean), Cond.instanceMethod yX1_isCollecting, Cond.initialized RX1]
def wsL_decide_r2 : List Cond := [Cond.selects RX1 yX1_isCollecting yX1_isCollecting, Cond.code yX1_isCollecting cX1_isCollecting 1 (some .boolean), Cond.fieldLink RX1 21 "NoticeStations$OpenWrite" "next" "LNoticeStations$Standing;", Cond.methodLink RX4 99 yX4_heldByHolders, Cond.static yX4_heldByHolders, Cond.code yX4_heldByHolders cX4_heldByHolders 3 (some (.object "NoticeStations$Standing")), Cond.instanceMethod yX2_length, Cond.initialized RX2, Cond.selects RX2 yX2_length yX2_length, Cond.code yX2_length cX2_length 1 (some .int), Cond.fieldLink RX2 7 "NoticeStations$Standing" "entries" "[I", Cond.methodLink RX4 103 yX4_mayGoOn, Cond.static yX4_mayGoOn, Cond.code yX4_mayGoOn cX4_mayGoOn 5 (some .boolean), Cond.instanceMethod yX1_groupSize, Cond.selects RX1 yX1_groupSize yX1_groupSize, Cond.code yX1_groupSize cX1_groupSize 3 (some .int), Cond.methodLink RX1 36 yX1_isOfGroup, Cond.instanceMethod yX1_isOfGroup, Cond.selects RX1 yX1_isOfGroup yX1_isOfGroup, Cond.code yX1_isOfGroup cX1_isOfGroup 2 (some .boolean), Cond.fieldLink RX1 11 "NoticeStations$OpenWrite" "granted" "[LNoticeStations$Standing;", Cond.methodLink RX4 119 yX4_requireRoomFor, Cond.instanceMethod yX4_requireRoomFor]
def wsL_decide_r3 : List Cond := [Cond.selects RX4 yX4_requireRoomFor yX4_requireRoomFor, Cond.code yX4_requireRoomFor cX4_requireRoomFor 2 none, Cond.fieldLink RX4 22 "NoticeStations" "row" "Ljava/util/ArrayList;", Cond.methodLink RX4 175 yJx4a65c_size_8abf5, Cond.instanceMethod yJx4a65c_size_8abf5, Cond.selects RJx4a65c yJx4a65c_size_8abf5 yJx4a65c_size_8abf5, Cond.initialized RJx4a65c, Cond.code yJx4a65c_size_8abf5 cJx4a65c_size_8abf5 1 (some .int), Cond.fieldLink RJx4a65c 48 "java/util/ArrayList" "size" "I", Cond.instanceMethod yX1_prepareFrom, Cond.selects RX1 yX1_prepareFrom yX1_prepareFrom, Cond.code yX1_prepareFrom cX1_prepareFrom 3 none, Cond.fieldLink RX1 29 "NoticeStations$OpenWrite" "entry" "I", Cond.fieldLink RX1 25 "NoticeStations$OpenWrite" "number" "I", Cond.fieldLink RX1 17 "NoticeStations$OpenWrite" "prepared" "[Z", Cond.methodLink RX1 43 yX1_groupSize, Cond.methodLink RX1 47 yX1_leastOfGroup, Cond.instanceMethod yX1_leastOfGroup, Cond.selects RX1 yX1_leastOfGroup yX1_leastOfGroup, Cond.code yX1_leastOfGroup cX1_leastOfGroup 2 (some .int), Cond.instanceMethod yX2_followedBy, Cond.selects RX2 yX2_followedBy yX2_followedBy, Cond.code yX2_followedBy cX2_followedBy 8 (some (.object "NoticeStations$Standing")), Cond.fieldLink RX2 13 "NoticeStations$Standing" "numbers" "[I"]
def wsL_decide_r4 : List Cond := [Cond.classLink RX2 8 RX2, Cond.instantiable RX2 4, Cond.methodLink RX2 33 yX2_length, Cond.methodLink RX2 37 yJ7_copyOf_59c91, Cond.static yJ7_copyOf_59c91, Cond.initialized RJ7, Cond.code yJ7_copyOf_59c91 cJ7_copyOf_59c91 3 (some (.array .int)), Cond.methodLink RJ7 316 ⟨"[I", "clone", "()Ljava/lang/Object;"⟩, Cond.sameMethod "[I" "java/lang/Object" "clone" "()Ljava/lang/Object;", Cond.native ⟨"java/lang/Object", "clone", "()Ljava/lang/Object;"⟩, Cond.instanceMethod ⟨"java/lang/Object", "clone", "()Ljava/lang/Object;"⟩, Cond.selects "[I" ⟨"[I", "clone", "()Ljava/lang/Object;"⟩ ⟨"java/lang/Object", "clone", "()Ljava/lang/Object;"⟩, Cond.classLink RJ7 317 "[I", Cond.arrayClass .int, Cond.methodLink RJ7 304 Lib.Math.min.name, Cond.static Lib.Math.min.name, Cond.initialized "java/lang/Math", Cond.code Lib.Math.min.name Lib.Math.min.code 2 (some .int), Cond.methodLink RJ7 150 arraycopyName, Cond.native arraycopyName, Cond.static arraycopyName, Cond.initialized "java/lang/System", Cond.methodLink RX2 43 yX2_init, Cond.instanceMethod yX2_init]
def wsL_decide_r5 : List Cond := [Cond.code yX2_init cX2_init 5 none, Cond.methodLink RX2 1 objectInit, Cond.instanceMethod objectInit, Cond.code objectInit ⟨#[0xb1]⟩ 1 none, Cond.fieldLink RX2 16 "NoticeStations$Standing" "size" "I", Cond.fieldLink RX2 20 "NoticeStations$Standing" "named" "I", Cond.methodLink RX4 131 yX4_sendAwaited, Cond.instanceMethod yX4_sendAwaited, Cond.selects RX4 yX4_sendAwaited yX4_sendAwaited, Cond.code yX4_sendAwaited cX4_sendAwaited 4 none, Cond.instanceMethod yX1_awaits, Cond.selects RX1 yX1_awaits yX1_awaits, Cond.code yX1_awaits cX1_awaits 2 (some .boolean), Cond.methodLink RX1 32 yX1_isCollecting, Cond.methodLink RX4 148 yX4_send, Cond.instanceMethod yX4_send, Cond.selects RX4 yX4_send yX4_send, Cond.code yX4_send cX4_send 6 none, Cond.classLink RX4 183 RX0, Cond.instantiable RX0 5, Cond.initialized RX0, Cond.instanceMethod yX0_init, Cond.code yX0_init cX0_init 6 none, Cond.methodLink RX0 1 objectInit]
def wsL_decide_r6 : List Cond := [Cond.fieldLink RX0 7 "NoticeStations$Letter" "kind" "I", Cond.fieldLink RX0 13 "NoticeStations$Letter" "from" "I", Cond.fieldLink RX0 16 "NoticeStations$Letter" "to" "I", Cond.fieldLink RX0 19 "NoticeStations$Letter" "number" "I", Cond.fieldLink RX0 22 "NoticeStations$Letter" "standing" "LNoticeStations$Standing;", Cond.methodLink RX4 213 yJx4a65c_add_9ea2d, Cond.instanceMethod yJx4a65c_add_9ea2d, Cond.selects RJx4a65c yJx4a65c_add_9ea2d yJx4a65c_add_9ea2d, Cond.code yJx4a65c_add_9ea2d cJx4a65c_add_9ea2d 2 (some .boolean), Cond.fieldLink RJx4a65c 63 "java/util/ArrayList" "modCount" "I", Cond.sameField "java/util/ArrayList" "java/util/AbstractList" "modCount" "I", Cond.fieldLink RJx4a65c 9 "java/util/ArrayList" "elementData" "[Ljava/lang/Object;", Cond.methodLink RJx4a65c 131 yJx4a65c_add_72be8, Cond.instanceMethod yJx4a65c_add_72be8, Cond.selects RJx4a65c yJx4a65c_add_72be8 yJx4a65c_add_72be8, Cond.code yJx4a65c_add_72be8 cJx4a65c_add_72be8 4 none, Cond.methodLink RJx4a65c 129 yJx4a65c_grow_d5877, Cond.instanceMethod yJx4a65c_grow_d5877, Cond.selects RJx4a65c yJx4a65c_grow_d5877 yJx4a65c_grow_d5877, Cond.code yJx4a65c_grow_d5877 cJx4a65c_grow_d5877 1 (some (.array (.object "java/lang/Object"))), Cond.methodLink RJx4a65c 69 yJx4a65c_grow_92f84, Cond.instanceMethod yJx4a65c_grow_92f84, Cond.selects RJx4a65c yJx4a65c_grow_92f84 yJx4a65c_grow_92f84, Cond.code yJx4a65c_grow_92f84 cJx4a65c_grow_92f84 4 (some (.array (.object "java/lang/Object")))]
def wsL_decide_r7 : List Cond := [Cond.fieldLink RJx4a65c 39 "java/util/ArrayList" "DEFAULTCAPACITY_EMPTY_ELEMENTDATA" "[Ljava/lang/Object;", Cond.methodLink RJx4a65c 79 Lib.Math.max.name, Cond.static Lib.Math.max.name, Cond.code Lib.Math.max.name Lib.Math.max.code 2 (some .int), Cond.classLink RJx4a65c 7 "java/lang/Object", Cond.methodLink RJx4a65c 73 yJ8_newLength_cabcc, Cond.static yJ8_newLength_cabcc, Cond.initialized RJ8, Cond.code yJ8_newLength_cabcc cJ8_newLength_cabcc 4 (some .int), Cond.methodLink RJ8 194 Lib.Math.max.name, Cond.constant RJ8 200 (2147483639), Cond.methodLink RJ8 201 yJ8_hugeLength_7cf53, Cond.static yJ8_hugeLength_7cf53, Cond.code yJ8_hugeLength_7cf53 cJ8_hugeLength_7cf53 3 (some .int), Cond.methodLink RJx4a65c 66 yJ7_copyOf_1904c, Cond.static yJ7_copyOf_1904c, Cond.code yJ7_copyOf_1904c cJ7_copyOf_1904c 2 (some (.array (.object "java/lang/Object"))), Cond.methodLink RJ7 86 ⟨"java/lang/Object", "getClass", "()Ljava/lang/Class;"⟩, Cond.selects "[Ljava/lang/Object;" ⟨"java/lang/Object", "getClass", "()Ljava/lang/Class;"⟩ ⟨"java/lang/Object", "getClass", "()Ljava/lang/Class;"⟩, Cond.instanceMethod ⟨"java/lang/Object", "getClass", "()Ljava/lang/Class;"⟩, Cond.native ⟨"java/lang/Object", "getClass", "()Ljava/lang/Class;"⟩, Cond.methodLink RJ7 300 yJ7_copyOf_6403c, Cond.static yJ7_copyOf_6403c, Cond.code yJ7_copyOf_6403c cJ7_copyOf_6403c 4 (some (.array (.object "java/lang/Object")))]
def wsL_decide_r8 : List Cond := [Cond.classLink RJ7 110 "[Ljava/lang/Object;", Cond.classLink RJ7 2 "java/lang/Object", Cond.methodLink RX4 135 yX4_commitIfAllPrepared, Cond.instanceMethod yX4_commitIfAllPrepared, Cond.selects RX4 yX4_commitIfAllPrepared yX4_commitIfAllPrepared, Cond.code yX4_commitIfAllPrepared cX4_commitIfAllPrepared 4 none, Cond.instanceMethod yX1_awaited, Cond.selects RX1 yX1_awaited yX1_awaited, Cond.code yX1_awaited cX1_awaited 3 (some .int), Cond.methodLink RX1 40 yX1_awaits, Cond.instanceMethod yX3_forgetWrite, Cond.initialized RX3, Cond.selects RX3 yX3_forgetWrite yX3_forgetWrite, Cond.code yX3_forgetWrite cX3_forgetWrite 1 none, Cond.fieldLink RX3 26 "NoticeStations$Station" "lock" "I", Cond.fieldLink RX3 29 "NoticeStations$Station" "open" "LNoticeStations$OpenWrite;"]
def wsL_decide : List Cond := .codeWith yL_decide cL_decide 4 (some .int) [(0, 16, 19, 13), (0, 16, 22, 21), (0, 16, 25, 23)] :: ((wsL_decide_r1 ++ (wsL_decide_r2 ++ (wsL_decide_r3 ++ (wsL_decide_r4 ++ (wsL_decide_r5 ++ (wsL_decide_r6 ++ (wsL_decide_r7 ++ wsL_decide_r8))))))) ++ wsX30 ++ wsX10 ++ wsX40 ++ wsX20 ++ wsJx4a65c0 ++ wsX00 ++ (vx_atS RX4 95 "java/lang/IllegalStateException" ["java/lang/RuntimeException", "java/lang/Exception"]).filter goodWord ++ (vx_atS RX4 115 "java/lang/UnsupportedOperationException" ["java/lang/RuntimeException", "java/lang/Exception"]).filter goodWord ++ (vx_atS RX4 251 "java/lang/IndexOutOfBoundsException" ["java/lang/RuntimeException", "java/lang/Exception"]).filter goodWord)
def wsL_giveUp_r1 : List Cond := [Cond.classLink RL 13 "java/lang/IndexOutOfBoundsException", Cond.classLink RL 21 "java/lang/IllegalStateException", Cond.classLink RL 23 "java/lang/UnsupportedOperationException", Cond.methodLink RL 35 yX4_giveUp, Cond.instanceMethod yX4_giveUp, Cond.selects RX4 yX4_giveUp yX4_giveUp, Cond.initialized RX4, Cond.code yX4_giveUp cX4_giveUp 5 none, Cond.methodLink RX4 42 yX4_stationAt, Cond.instanceMethod yX4_stationAt, Cond.selects RX4 yX4_stationAt yX4_stationAt, Cond.code yX4_stationAt cX4_stationAt 2 (some (.object "NoticeStations$Station")), Cond.classLink RX4 247 "java/lang/IndexOutOfBoundsException", Cond.initialized "java/lang/IndexOutOfBoundsException", Cond.fieldLink RX4 11 "NoticeStations" "stations" "[LNoticeStations$Station;", Cond.methodLink RX4 46 yX4_isBelow, Cond.static yX4_isBelow, Cond.code yX4_isBelow cX4_isBelow 2 (some .boolean), Cond.methodLink RX4 138 yX4_openWriteOf, Cond.instanceMethod yX4_openWriteOf, Cond.selects RX4 yX4_openWriteOf yX4_openWriteOf, Cond.code yX4_openWriteOf cX4_openWriteOf 3 (some (.object "NoticeStations$OpenWrite")), Cond.classLink RX4 91 "java/lang/IllegalStateException", Cond.initialized "java/lang/IllegalStateException"]
def wsL_giveUp_r2 : List Cond := [Cond.methodLink RX4 119 yX4_requireRoomFor, Cond.instanceMethod yX4_requireRoomFor, Cond.selects RX4 yX4_requireRoomFor yX4_requireRoomFor, Cond.code yX4_requireRoomFor cX4_requireRoomFor 2 none, Cond.classLink RX4 111 "java/lang/UnsupportedOperationException", Cond.initialized "java/lang/UnsupportedOperationException", Cond.fieldLink RX4 22 "NoticeStations" "row" "Ljava/util/ArrayList;", Cond.methodLink RX4 175 yJx4a65c_size_8abf5, Cond.instanceMethod yJx4a65c_size_8abf5, Cond.selects RJx4a65c yJx4a65c_size_8abf5 yJx4a65c_size_8abf5, Cond.initialized RJx4a65c, Cond.code yJx4a65c_size_8abf5 cJx4a65c_size_8abf5 1 (some .int), Cond.fieldLink RJx4a65c 48 "java/util/ArrayList" "size" "I", Cond.instanceMethod yX3_forgetWrite, Cond.initialized RX3, Cond.selects RX3 yX3_forgetWrite yX3_forgetWrite, Cond.code yX3_forgetWrite cX3_forgetWrite 1 none, Cond.fieldLink RX3 26 "NoticeStations$Station" "lock" "I", Cond.fieldLink RX3 29 "NoticeStations$Station" "open" "LNoticeStations$OpenWrite;", Cond.methodLink RX4 148 yX4_send, Cond.instanceMethod yX4_send, Cond.selects RX4 yX4_send yX4_send, Cond.code yX4_send cX4_send 6 none, Cond.classLink RX4 183 RX0]
def wsL_giveUp_r3 : List Cond := [Cond.instantiable RX0 5, Cond.initialized RX0, Cond.instanceMethod yX0_init, Cond.code yX0_init cX0_init 6 none, Cond.methodLink RX0 1 objectInit, Cond.instanceMethod objectInit, Cond.code objectInit ⟨#[0xb1]⟩ 1 none, Cond.fieldLink RX0 7 "NoticeStations$Letter" "kind" "I", Cond.fieldLink RX0 13 "NoticeStations$Letter" "from" "I", Cond.fieldLink RX0 16 "NoticeStations$Letter" "to" "I", Cond.fieldLink RX0 19 "NoticeStations$Letter" "number" "I", Cond.fieldLink RX0 22 "NoticeStations$Letter" "standing" "LNoticeStations$Standing;", Cond.methodLink RX4 213 yJx4a65c_add_9ea2d, Cond.instanceMethod yJx4a65c_add_9ea2d, Cond.selects RJx4a65c yJx4a65c_add_9ea2d yJx4a65c_add_9ea2d, Cond.code yJx4a65c_add_9ea2d cJx4a65c_add_9ea2d 2 (some .boolean), Cond.fieldLink RJx4a65c 63 "java/util/ArrayList" "modCount" "I", Cond.sameField "java/util/ArrayList" "java/util/AbstractList" "modCount" "I", Cond.fieldLink RJx4a65c 9 "java/util/ArrayList" "elementData" "[Ljava/lang/Object;", Cond.methodLink RJx4a65c 131 yJx4a65c_add_72be8, Cond.instanceMethod yJx4a65c_add_72be8, Cond.selects RJx4a65c yJx4a65c_add_72be8 yJx4a65c_add_72be8, Cond.code yJx4a65c_add_72be8 cJx4a65c_add_72be8 4 none, Cond.methodLink RJx4a65c 129 yJx4a65c_grow_d5877]
def wsL_giveUp_r4 : List Cond := [Cond.instanceMethod yJx4a65c_grow_d5877, Cond.selects RJx4a65c yJx4a65c_grow_d5877 yJx4a65c_grow_d5877, Cond.code yJx4a65c_grow_d5877 cJx4a65c_grow_d5877 1 (some (.array (.object "java/lang/Object"))), Cond.methodLink RJx4a65c 69 yJx4a65c_grow_92f84, Cond.instanceMethod yJx4a65c_grow_92f84, Cond.selects RJx4a65c yJx4a65c_grow_92f84 yJx4a65c_grow_92f84, Cond.code yJx4a65c_grow_92f84 cJx4a65c_grow_92f84 4 (some (.array (.object "java/lang/Object"))), Cond.fieldLink RJx4a65c 39 "java/util/ArrayList" "DEFAULTCAPACITY_EMPTY_ELEMENTDATA" "[Ljava/lang/Object;", Cond.methodLink RJx4a65c 79 Lib.Math.max.name, Cond.static Lib.Math.max.name, Cond.initialized "java/lang/Math", Cond.code Lib.Math.max.name Lib.Math.max.code 2 (some .int), Cond.classLink RJx4a65c 7 "java/lang/Object", Cond.methodLink RJx4a65c 73 yJ8_newLength_cabcc, Cond.static yJ8_newLength_cabcc, Cond.initialized RJ8, Cond.code yJ8_newLength_cabcc cJ8_newLength_cabcc 4 (some .int), Cond.methodLink RJ8 194 Lib.Math.max.name, Cond.constant RJ8 200 (2147483639), Cond.methodLink RJ8 201 yJ8_hugeLength_7cf53, Cond.static yJ8_hugeLength_7cf53, Cond.code yJ8_hugeLength_7cf53 cJ8_hugeLength_7cf53 3 (some .int), Cond.methodLink RJx4a65c 66 yJ7_copyOf_1904c, Cond.static yJ7_copyOf_1904c]
def wsL_giveUp_r5 : List Cond := [Cond.initialized RJ7, Cond.code yJ7_copyOf_1904c cJ7_copyOf_1904c 2 (some (.array (.object "java/lang/Object"))), Cond.methodLink RJ7 86 ⟨"java/lang/Object", "getClass", "()Ljava/lang/Class;"⟩, Cond.selects "[Ljava/lang/Object;" ⟨"java/lang/Object", "getClass", "()Ljava/lang/Class;"⟩ ⟨"java/lang/Object", "getClass", "()Ljava/lang/Class;"⟩, Cond.instanceMethod ⟨"java/lang/Object", "getClass", "()Ljava/lang/Class;"⟩, Cond.native ⟨"java/lang/Object", "getClass", "()Ljava/lang/Class;"⟩, Cond.methodLink RJ7 300 yJ7_copyOf_6403c, Cond.static yJ7_copyOf_6403c, Cond.code yJ7_copyOf_6403c cJ7_copyOf_6403c 4 (some (.array (.object "java/lang/Object"))), Cond.classLink RJ7 110 "[Ljava/lang/Object;", Cond.classLink RJ7 2 "java/lang/Object", Cond.methodLink RJ7 304 Lib.Math.min.name, Cond.static Lib.Math.min.name, Cond.code Lib.Math.min.name Lib.Math.min.code 2 (some .int), Cond.methodLink RJ7 150 arraycopyName, Cond.native arraycopyName, Cond.static arraycopyName, Cond.initialized "java/lang/System"]
def wsL_giveUp : List Cond := .codeWith yL_giveUp cL_giveUp 3 (some .int) [(0, 5, 8, 13), (0, 5, 11, 21), (0, 5, 14, 23)] :: ((wsL_giveUp_r1 ++ (wsL_giveUp_r2 ++ (wsL_giveUp_r3 ++ (wsL_giveUp_r4 ++ wsL_giveUp_r5)))) ++ wsX30 ++ wsX10 ++ wsX40 ++ wsJx4a65c0 ++ wsX00 ++ (vx_atS RX4 251 "java/lang/IndexOutOfBoundsException" ["java/lang/RuntimeException", "java/lang/Exception"]).filter goodWord ++ (vx_atS RX4 95 "java/lang/IllegalStateException" ["java/lang/RuntimeException", "java/lang/Exception"]).filter goodWord ++ (vx_atS RX4 115 "java/lang/UnsupportedOperationException" ["java/lang/RuntimeException", "java/lang/Exception"]).filter goodWord)
def wsL_resend_r1 : List Cond := [Cond.classLink RL 13 "java/lang/IndexOutOfBoundsException", Cond.classLink RL 21 "java/lang/IllegalStateException", Cond.classLink RL 23 "java/lang/UnsupportedOperationException", Cond.methodLink RL 39 yX4_resend, Cond.instanceMethod yX4_resend, Cond.selects RX4 yX4_resend yX4_resend, Cond.initialized RX4, Cond.code yX4_resend cX4_resend 5 (some .int), Cond.methodLink RX4 42 yX4_stationAt, Cond.instanceMethod yX4_stationAt, Cond.selects RX4 yX4_stationAt yX4_stationAt, Cond.code yX4_stationAt cX4_stationAt 2 (some (.object "NoticeStations$Station")), Cond.classLink RX4 247 "java/lang/IndexOutOfBoundsException", Cond.initialized "java/lang/IndexOutOfBoundsException", Cond.fieldLink RX4 11 "NoticeStations" "stations" "[LNoticeStations$Station;", Cond.methodLink RX4 46 yX4_isBelow, Cond.static yX4_isBelow, Cond.code yX4_isBelow cX4_isBelow 2 (some .boolean), Cond.methodLink RX4 138 yX4_openWriteOf, Cond.instanceMethod yX4_openWriteOf, Cond.selects RX4 yX4_openWriteOf yX4_openWriteOf, Cond.code yX4_openWriteOf cX4_openWriteOf 3 (some (.object "NoticeStations$OpenWrite")), Cond.classLink RX4 91 "java/lang/IllegalStateException", Cond.initialized "java/lang/IllegalStateException"]
def wsL_resend_r2 : List Cond := [Cond.instanceMethod yX1_awaited, Cond.initialized RX1, Cond.selects RX1 yX1_awaited yX1_awaited, Cond.code yX1_awaited cX1_awaited 3 (some .int), Cond.methodLink RX1 40 yX1_awaits, Cond.instanceMethod yX1_awaits, Cond.selects RX1 yX1_awaits yX1_awaits, Cond.code yX1_awaits cX1_awaits 2 (some .boolean), Cond.fieldLink RX1 11 "NoticeStations$OpenWrite" "granted" "[LNoticeStations$Standing;", Cond.fieldLink RX1 17 "NoticeStations$OpenWrite" "prepared" "[Z", Cond.methodLink RX1 32 yX1_isCollecting, Cond.instanceMethod yX1_isCollecting, Cond.selects RX1 yX1_isCollecting yX1_isCollecting, Cond.code yX1_isCollecting cX1_isCollecting 1 (some .boolean), Cond.fieldLink RX1 21 "NoticeStations$OpenWrite" "next" "LNoticeStations$Standing;", Cond.methodLink RX1 36 yX1_isOfGroup, Cond.instanceMethod yX1_isOfGroup, Cond.selects RX1 yX1_isOfGroup yX1_isOfGroup, Cond.code yX1_isOfGroup cX1_isOfGroup 2 (some .boolean), Cond.methodLink RX4 119 yX4_requireRoomFor, Cond.instanceMethod yX4_requireRoomFor, Cond.selects RX4 yX4_requireRoomFor yX4_requireRoomFor, Cond.code yX4_requireRoomFor cX4_requireRoomFor 2 none, Cond.classLink RX4 111 "java/lang/UnsupportedOperationException"]
def wsL_resend_r3 : List Cond := [Cond.initialized "java/lang/UnsupportedOperationException", Cond.fieldLink RX4 22 "NoticeStations" "row" "Ljava/util/ArrayList;", Cond.methodLink RX4 175 yJx4a65c_size_8abf5, Cond.instanceMethod yJx4a65c_size_8abf5, Cond.selects RJx4a65c yJx4a65c_size_8abf5 yJx4a65c_size_8abf5, Cond.initialized RJx4a65c, Cond.code yJx4a65c_size_8abf5 cJx4a65c_size_8abf5 1 (some .int), Cond.fieldLink RJx4a65c 48 "java/util/ArrayList" "size" "I", Cond.methodLink RX4 131 yX4_sendAwaited, Cond.instanceMethod yX4_sendAwaited, Cond.selects RX4 yX4_sendAwaited yX4_sendAwaited, Cond.code yX4_sendAwaited cX4_sendAwaited 4 none, Cond.methodLink RX4 148 yX4_send, Cond.instanceMethod yX4_send, Cond.selects RX4 yX4_send yX4_send, Cond.code yX4_send cX4_send 6 none, Cond.classLink RX4 183 RX0, Cond.instantiable RX0 5, Cond.initialized RX0, Cond.instanceMethod yX0_init, Cond.code yX0_init cX0_init 6 none, Cond.methodLink RX0 1 objectInit, Cond.instanceMethod objectInit, Cond.code objectInit ⟨#[0xb1]⟩ 1 none]
def wsL_resend_r4 : List Cond := [Cond.fieldLink RX0 7 "NoticeStations$Letter" "kind" "I", Cond.fieldLink RX0 13 "NoticeStations$Letter" "from" "I", Cond.fieldLink RX0 16 "NoticeStations$Letter" "to" "I", Cond.fieldLink RX0 19 "NoticeStations$Letter" "number" "I", Cond.fieldLink RX0 22 "NoticeStations$Letter" "standing" "LNoticeStations$Standing;", Cond.methodLink RX4 213 yJx4a65c_add_9ea2d, Cond.instanceMethod yJx4a65c_add_9ea2d, Cond.selects RJx4a65c yJx4a65c_add_9ea2d yJx4a65c_add_9ea2d, Cond.code yJx4a65c_add_9ea2d cJx4a65c_add_9ea2d 2 (some .boolean), Cond.fieldLink RJx4a65c 63 "java/util/ArrayList" "modCount" "I", Cond.sameField "java/util/ArrayList" "java/util/AbstractList" "modCount" "I", Cond.fieldLink RJx4a65c 9 "java/util/ArrayList" "elementData" "[Ljava/lang/Object;", Cond.methodLink RJx4a65c 131 yJx4a65c_add_72be8, Cond.instanceMethod yJx4a65c_add_72be8, Cond.selects RJx4a65c yJx4a65c_add_72be8 yJx4a65c_add_72be8, Cond.code yJx4a65c_add_72be8 cJx4a65c_add_72be8 4 none, Cond.methodLink RJx4a65c 129 yJx4a65c_grow_d5877, Cond.instanceMethod yJx4a65c_grow_d5877, Cond.selects RJx4a65c yJx4a65c_grow_d5877 yJx4a65c_grow_d5877, Cond.code yJx4a65c_grow_d5877 cJx4a65c_grow_d5877 1 (some (.array (.object "java/lang/Object"))), Cond.methodLink RJx4a65c 69 yJx4a65c_grow_92f84, Cond.instanceMethod yJx4a65c_grow_92f84, Cond.selects RJx4a65c yJx4a65c_grow_92f84 yJx4a65c_grow_92f84, Cond.code yJx4a65c_grow_92f84 cJx4a65c_grow_92f84 4 (some (.array (.object "java/lang/Object")))]
def wsL_resend_r5 : List Cond := [Cond.fieldLink RJx4a65c 39 "java/util/ArrayList" "DEFAULTCAPACITY_EMPTY_ELEMENTDATA" "[Ljava/lang/Object;", Cond.methodLink RJx4a65c 79 Lib.Math.max.name, Cond.static Lib.Math.max.name, Cond.initialized "java/lang/Math", Cond.code Lib.Math.max.name Lib.Math.max.code 2 (some .int), Cond.classLink RJx4a65c 7 "java/lang/Object", Cond.methodLink RJx4a65c 73 yJ8_newLength_cabcc, Cond.static yJ8_newLength_cabcc, Cond.initialized RJ8, Cond.code yJ8_newLength_cabcc cJ8_newLength_cabcc 4 (some .int), Cond.methodLink RJ8 194 Lib.Math.max.name, Cond.constant RJ8 200 (2147483639), Cond.methodLink RJ8 201 yJ8_hugeLength_7cf53, Cond.static yJ8_hugeLength_7cf53, Cond.code yJ8_hugeLength_7cf53 cJ8_hugeLength_7cf53 3 (some .int), Cond.methodLink RJx4a65c 66 yJ7_copyOf_1904c, Cond.static yJ7_copyOf_1904c, Cond.initialized RJ7, Cond.code yJ7_copyOf_1904c cJ7_copyOf_1904c 2 (some (.array (.object "java/lang/Object"))), Cond.methodLink RJ7 86 ⟨"java/lang/Object", "getClass", "()Ljava/lang/Class;"⟩, Cond.selects "[Ljava/lang/Object;" ⟨"java/lang/Object", "getClass", "()Ljava/lang/Class;"⟩ ⟨"java/lang/Object", "getClass", "()Ljava/lang/Class;"⟩, Cond.instanceMethod ⟨"java/lang/Object", "getClass", "()Ljava/lang/Class;"⟩, Cond.native ⟨"java/lang/Object", "getClass", "()Ljava/lang/Class;"⟩, Cond.methodLink RJ7 300 yJ7_copyOf_6403c]
def wsL_resend_r6 : List Cond := [Cond.static yJ7_copyOf_6403c, Cond.code yJ7_copyOf_6403c cJ7_copyOf_6403c 4 (some (.array (.object "java/lang/Object"))), Cond.classLink RJ7 110 "[Ljava/lang/Object;", Cond.classLink RJ7 2 "java/lang/Object", Cond.methodLink RJ7 304 Lib.Math.min.name, Cond.static Lib.Math.min.name, Cond.code Lib.Math.min.name Lib.Math.min.code 2 (some .int), Cond.methodLink RJ7 150 arraycopyName, Cond.native arraycopyName, Cond.static arraycopyName, Cond.initialized "java/lang/System"]
def wsL_resend : List Cond := .codeWith yL_resend cL_resend 4 (some .int) [(0, 9, 12, 13), (0, 9, 15, 21), (0, 9, 18, 23)] :: ((wsL_resend_r1 ++ (wsL_resend_r2 ++ (wsL_resend_r3 ++ (wsL_resend_r4 ++ (wsL_resend_r5 ++ wsL_resend_r6))))) ++ wsX40 ++ wsX30 ++ wsX10 ++ wsJx4a65c0 ++ wsX00 ++ (vx_atS RX4 251 "java/lang/IndexOutOfBoundsException" ["java/lang/RuntimeException", "java/lang/Exception"]).filter goodWord ++ (vx_atS RX4 95 "java/lang/IllegalStateException" ["java/lang/RuntimeException", "java/lang/Exception"]).filter goodWord ++ (vx_atS RX4 115 "java/lang/UnsupportedOperationException" ["java/lang/RuntimeException", "java/lang/Exception"]).filter goodWord)
def wsL_unlock : List Cond := .codeWith yL_unlock cL_unlock 3 (some .int) [(0, 5, 8, 13), (0, 5, 11, 21)] :: ([.classLink RL 13 "java/lang/IndexOutOfBoundsException", .classLink RL 21 "java/lang/IllegalStateException", .methodLink RL 43 yX4_unlock, .instanceMethod yX4_unlock, .selects RX4 yX4_unlock yX4_unlock, .initialized RX4, .code yX4_unlock cX4_unlock 3 none, .classLink RX4 91 "java/lang/IllegalStateException", .initialized "java/lang/IllegalStateException", .methodLink RX4 42 yX4_stationAt, .instanceMethod yX4_stationAt, .selects RX4 yX4_stationAt yX4_stationAt, .code yX4_stationAt cX4_stationAt 2 (some (.object "NoticeStations$Station")), .classLink RX4 247 "java/lang/IndexOutOfBoundsException", .initialized "java/lang/IndexOutOfBoundsException", .fieldLink RX4 11 "NoticeStations" "stations" "[LNoticeStations$Station;", .methodLink RX4 46 yX4_isBelow, .static yX4_isBelow, .code yX4_isBelow cX4_isBelow 2 (some .boolean)] ++ wsX30 ++ wsX40 ++ (vx_atS RX4 95 "java/lang/IllegalStateException" ["java/lang/RuntimeException", "java/lang/Exception"]).filter goodWord ++ (vx_atS RX4 251 "java/lang/IndexOutOfBoundsException" ["java/lang/RuntimeException", "java/lang/Exception"]).filter goodWord)
def wsL_ask_r1 : List Cond := [Cond.classLink RL 13 "java/lang/IndexOutOfBoundsException", Cond.classLink RL 21 "java/lang/IllegalStateException", Cond.classLink RL 23 "java/lang/UnsupportedOperationException", Cond.methodLink RL 46 yX4_ask, Cond.instanceMethod yX4_ask, Cond.selects RX4 yX4_ask yX4_ask, Cond.initialized RX4, Cond.code yX4_ask cX4_ask 4 none, Cond.classLink RX4 91 "java/lang/IllegalStateException", Cond.initialized "java/lang/IllegalStateException", Cond.fieldLink RX4 11 "NoticeStations" "stations" "[LNoticeStations$Station;", Cond.methodLink RX4 38 yX4_requireTwoStations, Cond.instanceMethod yX4_requireTwoStations, Cond.selects RX4 yX4_requireTwoStations yX4_requireTwoStations, Cond.code yX4_requireTwoStations cX4_requireTwoStations 3 none, Cond.classLink RX4 247 "java/lang/IndexOutOfBoundsException", Cond.initialized "java/lang/IndexOutOfBoundsException", Cond.methodLink RX4 46 yX4_isBelow, Cond.static yX4_isBelow, Cond.code yX4_isBelow cX4_isBelow 2 (some .boolean), Cond.instanceMethod yX3_isInDoubt, Cond.initialized RX3, Cond.selects RX3 yX3_isInDoubt yX3_isInDoubt, Cond.code yX3_isInDoubt cX3_isInDoubt 1 (some .boolean)]
def wsL_ask_r2 : List Cond := [Cond.fieldLink RX3 22 "NoticeStations$Station" "preparedStanding" "LNoticeStations$Standing;", Cond.methodLink RX4 119 yX4_requireRoomFor, Cond.instanceMethod yX4_requireRoomFor, Cond.selects RX4 yX4_requireRoomFor yX4_requireRoomFor, Cond.code yX4_requireRoomFor cX4_requireRoomFor 2 none, Cond.classLink RX4 111 "java/lang/UnsupportedOperationException", Cond.initialized "java/lang/UnsupportedOperationException", Cond.fieldLink RX4 22 "NoticeStations" "row" "Ljava/util/ArrayList;", Cond.methodLink RX4 175 yJx4a65c_size_8abf5, Cond.instanceMethod yJx4a65c_size_8abf5, Cond.selects RJx4a65c yJx4a65c_size_8abf5 yJx4a65c_size_8abf5, Cond.initialized RJx4a65c, Cond.code yJx4a65c_size_8abf5 cJx4a65c_size_8abf5 1 (some .int), Cond.fieldLink RJx4a65c 48 "java/util/ArrayList" "size" "I", Cond.methodLink RX4 148 yX4_send, Cond.instanceMethod yX4_send, Cond.selects RX4 yX4_send yX4_send, Cond.code yX4_send cX4_send 6 none, Cond.classLink RX4 183 RX0, Cond.instantiable RX0 5, Cond.initialized RX0, Cond.instanceMethod yX0_init, Cond.code yX0_init cX0_init 6 none, Cond.methodLink RX0 1 objectInit]
def wsL_ask_r3 : List Cond := [Cond.instanceMethod objectInit, Cond.code objectInit ⟨#[0xb1]⟩ 1 none, Cond.fieldLink RX0 7 "NoticeStations$Letter" "kind" "I", Cond.fieldLink RX0 13 "NoticeStations$Letter" "from" "I", Cond.fieldLink RX0 16 "NoticeStations$Letter" "to" "I", Cond.fieldLink RX0 19 "NoticeStations$Letter" "number" "I", Cond.fieldLink RX0 22 "NoticeStations$Letter" "standing" "LNoticeStations$Standing;", Cond.methodLink RX4 213 yJx4a65c_add_9ea2d, Cond.instanceMethod yJx4a65c_add_9ea2d, Cond.selects RJx4a65c yJx4a65c_add_9ea2d yJx4a65c_add_9ea2d, Cond.code yJx4a65c_add_9ea2d cJx4a65c_add_9ea2d 2 (some .boolean), Cond.fieldLink RJx4a65c 63 "java/util/ArrayList" "modCount" "I", Cond.sameField "java/util/ArrayList" "java/util/AbstractList" "modCount" "I", Cond.fieldLink RJx4a65c 9 "java/util/ArrayList" "elementData" "[Ljava/lang/Object;", Cond.methodLink RJx4a65c 131 yJx4a65c_add_72be8, Cond.instanceMethod yJx4a65c_add_72be8, Cond.selects RJx4a65c yJx4a65c_add_72be8 yJx4a65c_add_72be8, Cond.code yJx4a65c_add_72be8 cJx4a65c_add_72be8 4 none, Cond.methodLink RJx4a65c 129 yJx4a65c_grow_d5877, Cond.instanceMethod yJx4a65c_grow_d5877, Cond.selects RJx4a65c yJx4a65c_grow_d5877 yJx4a65c_grow_d5877, Cond.code yJx4a65c_grow_d5877 cJx4a65c_grow_d5877 1 (some (.array (.object "java/lang/Object"))), Cond.methodLink RJx4a65c 69 yJx4a65c_grow_92f84, Cond.instanceMethod yJx4a65c_grow_92f84]
def wsL_ask_r4 : List Cond := [Cond.selects RJx4a65c yJx4a65c_grow_92f84 yJx4a65c_grow_92f84, Cond.code yJx4a65c_grow_92f84 cJx4a65c_grow_92f84 4 (some (.array (.object "java/lang/Object"))), Cond.fieldLink RJx4a65c 39 "java/util/ArrayList" "DEFAULTCAPACITY_EMPTY_ELEMENTDATA" "[Ljava/lang/Object;", Cond.methodLink RJx4a65c 79 Lib.Math.max.name, Cond.static Lib.Math.max.name, Cond.initialized "java/lang/Math", Cond.code Lib.Math.max.name Lib.Math.max.code 2 (some .int), Cond.classLink RJx4a65c 7 "java/lang/Object", Cond.methodLink RJx4a65c 73 yJ8_newLength_cabcc, Cond.static yJ8_newLength_cabcc, Cond.initialized RJ8, Cond.code yJ8_newLength_cabcc cJ8_newLength_cabcc 4 (some .int), Cond.methodLink RJ8 194 Lib.Math.max.name, Cond.constant RJ8 200 (2147483639), Cond.methodLink RJ8 201 yJ8_hugeLength_7cf53, Cond.static yJ8_hugeLength_7cf53, Cond.code yJ8_hugeLength_7cf53 cJ8_hugeLength_7cf53 3 (some .int), Cond.methodLink RJx4a65c 66 yJ7_copyOf_1904c, Cond.static yJ7_copyOf_1904c, Cond.initialized RJ7, Cond.code yJ7_copyOf_1904c cJ7_copyOf_1904c 2 (some (.array (.object "java/lang/Object"))), Cond.methodLink RJ7 86 ⟨"java/lang/Object", "getClass", "()Ljava/lang/Class;"⟩, Cond.selects "[Ljava/lang/Object;" ⟨"java/lang/Object", "getClass", "()Ljava/lang/Class;"⟩ ⟨"java/lang/Object", "getClass", "()Ljava/lang/Class;"⟩, Cond.instanceMethod ⟨"java/lang/Object", "getClass", "()Ljava/lang/Class;"⟩]
def wsL_ask_r5 : List Cond := [Cond.native ⟨"java/lang/Object", "getClass", "()Ljava/lang/Class;"⟩, Cond.methodLink RJ7 300 yJ7_copyOf_6403c, Cond.static yJ7_copyOf_6403c, Cond.code yJ7_copyOf_6403c cJ7_copyOf_6403c 4 (some (.array (.object "java/lang/Object"))), Cond.classLink RJ7 110 "[Ljava/lang/Object;", Cond.classLink RJ7 2 "java/lang/Object", Cond.methodLink RJ7 304 Lib.Math.min.name, Cond.static Lib.Math.min.name, Cond.code Lib.Math.min.name Lib.Math.min.code 2 (some .int), Cond.methodLink RJ7 150 arraycopyName, Cond.native arraycopyName, Cond.static arraycopyName, Cond.initialized "java/lang/System"]
def wsL_ask : List Cond := .codeWith yL_ask cL_ask 4 (some .int) [(0, 6, 9, 13), (0, 6, 12, 21), (0, 6, 15, 23)] :: ((wsL_ask_r1 ++ (wsL_ask_r2 ++ (wsL_ask_r3 ++ (wsL_ask_r4 ++ wsL_ask_r5)))) ++ wsX40 ++ wsX30 ++ wsJx4a65c0 ++ wsX00 ++ (vx_atS RX4 95 "java/lang/IllegalStateException" ["java/lang/RuntimeException", "java/lang/Exception"]).filter goodWord ++ (vx_atS RX4 251 "java/lang/IndexOutOfBoundsException" ["java/lang/RuntimeException", "java/lang/Exception"]).filter goodWord ++ (vx_atS RX4 115 "java/lang/UnsupportedOperationException" ["java/lang/RuntimeException", "java/lang/Exception"]).filter goodWord)
def wsL_stop : List Cond := .codeWith yL_stop cL_stop 4 (some .int) [(0, 16, 19, 13)] :: ([.classLink RL 13 "java/lang/IndexOutOfBoundsException", .methodLink RL 50 yX4_stop, .instanceMethod yX4_stop, .selects RX4 yX4_stop yX4_stop, .initialized RX4, .code yX4_stop cX4_stop 4 (some .boolean), .methodLink RX4 42 yX4_stationAt, .instanceMethod yX4_stationAt, .selects RX4 yX4_stationAt yX4_stationAt, .code yX4_stationAt cX4_stationAt 2 (some (.object "NoticeStations$Station")), .classLink RX4 247 "java/lang/IndexOutOfBoundsException", .initialized "java/lang/IndexOutOfBoundsException", .fieldLink RX4 11 "NoticeStations" "stations" "[LNoticeStations$Station;", .methodLink RX4 46 yX4_isBelow, .static yX4_isBelow, .code yX4_isBelow cX4_isBelow 2 (some .boolean), .instanceMethod yX3_forgetWrite, .initialized RX3, .selects RX3 yX3_forgetWrite yX3_forgetWrite, .code yX3_forgetWrite cX3_forgetWrite 1 none, .fieldLink RX3 26 "NoticeStations$Station" "lock" "I", .fieldLink RX3 29 "NoticeStations$Station" "open" "LNoticeStations$OpenWrite;"] ++ wsX30 ++ wsX40 ++ (vx_atS RX4 251 "java/lang/IndexOutOfBoundsException" ["java/lang/RuntimeException", "java/lang/Exception"]).filter goodWord)
def wsL_start : List Cond := .codeWith yL_start cL_start 4 (some .int) [(0, 16, 19, 13)] :: ([.classLink RL 13 "java/lang/IndexOutOfBoundsException", .methodLink RL 53 yX4_start, .instanceMethod yX4_start, .selects RX4 yX4_start yX4_start, .initialized RX4, .code yX4_start cX4_start 4 (some .boolean), .methodLink RX4 42 yX4_stationAt, .instanceMethod yX4_stationAt, .selects RX4 yX4_stationAt yX4_stationAt, .code yX4_stationAt cX4_stationAt 2 (some (.object "NoticeStations$Station")), .classLink RX4 247 "java/lang/IndexOutOfBoundsException", .initialized "java/lang/IndexOutOfBoundsException", .fieldLink RX4 11 "NoticeStations" "stations" "[LNoticeStations$Station;", .methodLink RX4 46 yX4_isBelow, .static yX4_isBelow, .code yX4_isBelow cX4_isBelow 2 (some .boolean), .instanceMethod yX3_forgetWrite, .initialized RX3, .selects RX3 yX3_forgetWrite yX3_forgetWrite, .code yX3_forgetWrite cX3_forgetWrite 1 none, .fieldLink RX3 26 "NoticeStations$Station" "lock" "I", .fieldLink RX3 29 "NoticeStations$Station" "open" "LNoticeStations$OpenWrite;"] ++ wsX30 ++ wsX40 ++ (vx_atS RX4 251 "java/lang/IndexOutOfBoundsException" ["java/lang/RuntimeException", "java/lang/Exception"]).filter goodWord)
def wsL_deliver_r1 : List Cond := [Cond.classLink RL 13 "java/lang/IndexOutOfBoundsException", Cond.classLink RL 21 "java/lang/IllegalStateException", Cond.classLink RL 23 "java/lang/UnsupportedOperationException", Cond.methodLink RL 56 yX4_deliver, Cond.instanceMethod yX4_deliver, Cond.selects RX4 yX4_deliver yX4_deliver, Cond.initialized RX4, Cond.code yX4_deliver cX4_deliver 4 (some .int), Cond.classLink RX4 91 "java/lang/IllegalStateException", Cond.initialized "java/lang/IllegalStateException", Cond.fieldLink RX4 11 "NoticeStations" "stations" "[LNoticeStations$Station;", Cond.fieldLink RX4 22 "NoticeStations" "row" "Ljava/util/ArrayList;", Cond.methodLink RX4 178 yX4_letterAt, Cond.instanceMethod yX4_letterAt, Cond.selects RX4 yX4_letterAt yX4_letterAt, Cond.code yX4_letterAt cX4_letterAt 2 (some (.object "NoticeStations$Letter")), Cond.classLink RX4 183 "NoticeStations$Letter", Cond.methodLink RX4 210 yX4_requireLetter, Cond.instanceMethod yX4_requireLetter, Cond.selects RX4 yX4_requireLetter yX4_requireLetter, Cond.code yX4_requireLetter cX4_requireLetter 2 none, Cond.classLink RX4 247 "java/lang/IndexOutOfBoundsException", Cond.initialized "java/lang/IndexOutOfBoundsException", Cond.methodLink RX4 175 yJx4a65c_size_8abf5]
def wsL_deliver_r2 : List Cond := [Cond.instanceMethod yJx4a65c_size_8abf5, Cond.selects RJx4a65c yJx4a65c_size_8abf5 yJx4a65c_size_8abf5, Cond.initialized RJx4a65c, Cond.code yJx4a65c_size_8abf5 cJx4a65c_size_8abf5 1 (some .int), Cond.fieldLink RJx4a65c 48 "java/util/ArrayList" "size" "I", Cond.methodLink RX4 46 yX4_isBelow, Cond.static yX4_isBelow, Cond.code yX4_isBelow cX4_isBelow 2 (some .boolean), Cond.methodLink RX4 256 yJx4a65c_get_915e3, Cond.instanceMethod yJx4a65c_get_915e3, Cond.selects RJx4a65c yJx4a65c_get_915e3 yJx4a65c_get_915e3, Cond.code yJx4a65c_get_915e3 cJx4a65c_get_915e3 2 (some (.object "java/lang/Object")), Cond.methodLink RJx4a65c 118 yJ15_checkIndex_7cf53, Cond.static yJ15_checkIndex_7cf53, Cond.initialized RJ15, Cond.code yJ15_checkIndex_7cf53 cJ15_checkIndex_7cf53 2 (some .int), Cond.methodLink RJ15 105 yJ3_checkIndex_8e157, Cond.static yJ3_checkIndex_8e157, Cond.initialized RJ3, Cond.code yJ3_checkIndex_8e157 cJ3_checkIndex_8e157 3 (some .int), Cond.methodLink RJx4a65c 123 yJx4a65c_elementData_915e3, Cond.instanceMethod yJx4a65c_elementData_915e3, Cond.selects RJx4a65c yJx4a65c_elementData_915e3 yJx4a65c_elementData_915e3, Cond.code yJx4a65c_elementData_915e3 cJx4a65c_elementData_915e3 2 (some (.object "java/lang/Object"))]
def wsL_deliver_r3 : List Cond := [Cond.fieldLink RJx4a65c 9 "java/util/ArrayList" "elementData" "[Ljava/lang/Object;", Cond.methodLink RX4 190 yX4_areInOnePiece, Cond.instanceMethod yX4_areInOnePiece, Cond.selects RX4 yX4_areInOnePiece yX4_areInOnePiece, Cond.code yX4_areInOnePiece cX4_areInOnePiece 6 (some .boolean), Cond.fieldLink RX4 15 "NoticeStations" "cables" "[I", Cond.methodLink RX4 195 yX4_answersTo, Cond.static yX4_answersTo, Cond.code yX4_answersTo cX4_answersTo 3 (some .int), Cond.methodLink RX4 280 yX4_openWriteFor, Cond.static yX4_openWriteFor, Cond.code yX4_openWriteFor cX4_openWriteFor 3 (some (.object "NoticeStations$OpenWrite")), Cond.instanceMethod yX1_isCollecting, Cond.initialized RX1, Cond.selects RX1 yX1_isCollecting yX1_isCollecting, Cond.code yX1_isCollecting cX1_isCollecting 1 (some .boolean), Cond.fieldLink RX1 21 "NoticeStations$OpenWrite" "next" "LNoticeStations$Standing;", Cond.instanceMethod yX1_awaits, Cond.selects RX1 yX1_awaits yX1_awaits, Cond.code yX1_awaits cX1_awaits 2 (some .boolean), Cond.fieldLink RX1 11 "NoticeStations$OpenWrite" "granted" "[LNoticeStations$Standing;", Cond.fieldLink RX1 17 "NoticeStations$OpenWrite" "prepared" "[Z", Cond.methodLink RX1 32 yX1_isCollecting, Cond.methodLink RX1 36 yX1_isOfGroup]
def wsL_deliver_r4 : List Cond := [Cond.instanceMethod yX1_isOfGroup, Cond.selects RX1 yX1_isOfGroup yX1_isOfGroup, Cond.code yX1_isOfGroup cX1_isOfGroup 2 (some .boolean), Cond.instanceMethod yX1_awaited, Cond.selects RX1 yX1_awaited yX1_awaited, Cond.code yX1_awaited cX1_awaited 3 (some .int), Cond.methodLink RX1 40 yX1_awaits, Cond.instanceMethod yX1_groupSize, Cond.selects RX1 yX1_groupSize yX1_groupSize, Cond.code yX1_groupSize cX1_groupSize 3 (some .int), Cond.methodLink RX4 119 yX4_requireRoomFor, Cond.instanceMethod yX4_requireRoomFor, Cond.selects RX4 yX4_requireRoomFor yX4_requireRoomFor, Cond.code yX4_requireRoomFor cX4_requireRoomFor 2 none, Cond.classLink RX4 111 "java/lang/UnsupportedOperationException", Cond.initialized "java/lang/UnsupportedOperationException", Cond.methodLink RX4 199 yJx4a65c_remove_915e3, Cond.instanceMethod yJx4a65c_remove_915e3, Cond.selects RJx4a65c yJx4a65c_remove_915e3 yJx4a65c_remove_915e3, Cond.code yJx4a65c_remove_915e3 cJx4a65c_remove_915e3 4 (some (.object "java/lang/Object")), Cond.methodLink RJx4a65c 144 yJx4a65c_fastRemove_b59b0, Cond.instanceMethod yJx4a65c_fastRemove_b59b0, Cond.selects RJx4a65c yJx4a65c_fastRemove_b59b0 yJx4a65c_fastRemove_b59b0, Cond.code yJx4a65c_fastRemove_b59b0 cJx4a65c_fastRemove_b59b0 4 none]
def wsL_deliver_r5 : List Cond := [Cond.fieldLink RJx4a65c 63 "java/util/ArrayList" "modCount" "I", Cond.sameField "java/util/ArrayList" "java/util/AbstractList" "modCount" "I", Cond.methodLink RJx4a65c 112 arraycopyName, Cond.native arraycopyName, Cond.static arraycopyName, Cond.initialized "java/lang/System", Cond.methodLink RX4 203 yX4_take, Cond.instanceMethod yX4_take, Cond.selects RX4 yX4_take yX4_take, Cond.code yX4_take cX4_take 3 none, Cond.methodLink RX4 284 yX4_takeLock, Cond.instanceMethod yX4_takeLock, Cond.selects RX4 yX4_takeLock yX4_takeLock, Cond.code yX4_takeLock cX4_takeLock 3 none, Cond.instanceMethod yX3_isFree, Cond.initialized RX3, Cond.selects RX3 yX3_isFree yX3_isFree, Cond.code yX3_isFree cX3_isFree 1 (some .boolean), Cond.fieldLink RX3 9 "NoticeStations$Station" "up" "Z", Cond.fieldLink RX3 26 "NoticeStations$Station" "lock" "I", Cond.methodLink RX3 39 yX3_isInDoubt, Cond.instanceMethod yX3_isInDoubt, Cond.selects RX3 yX3_isInDoubt yX3_isInDoubt, Cond.code yX3_isInDoubt cX3_isInDoubt 1 (some .boolean)]
def wsL_deliver_r6 : List Cond := [Cond.fieldLink RX3 22 "NoticeStations$Station" "preparedStanding" "LNoticeStations$Standing;", Cond.methodLink RX4 305 yX4_sendBack, Cond.instanceMethod yX4_sendBack, Cond.selects RX4 yX4_sendBack yX4_sendBack, Cond.code yX4_sendBack cX4_sendBack 4 none, Cond.methodLink RX4 148 yX4_send, Cond.instanceMethod yX4_send, Cond.selects RX4 yX4_send yX4_send, Cond.code yX4_send cX4_send 6 none, Cond.classLink RX4 183 RX0, Cond.instantiable RX0 5, Cond.initialized RX0, Cond.instanceMethod yX0_init, Cond.code yX0_init cX0_init 6 none, Cond.methodLink RX0 1 objectInit, Cond.instanceMethod objectInit, Cond.code objectInit ⟨#[0xb1]⟩ 1 none, Cond.fieldLink RX0 7 "NoticeStations$Letter" "kind" "I", Cond.fieldLink RX0 13 "NoticeStations$Letter" "from" "I", Cond.fieldLink RX0 16 "NoticeStations$Letter" "to" "I", Cond.fieldLink RX0 19 "NoticeStations$Letter" "number" "I", Cond.fieldLink RX0 22 "NoticeStations$Letter" "standing" "LNoticeStations$Standing;", Cond.methodLink RX4 213 yJx4a65c_add_9ea2d, Cond.instanceMethod yJx4a65c_add_9ea2d]
def wsL_deliver_r7 : List Cond := [Cond.selects RJx4a65c yJx4a65c_add_9ea2d yJx4a65c_add_9ea2d, Cond.code yJx4a65c_add_9ea2d cJx4a65c_add_9ea2d 2 (some .boolean), Cond.methodLink RJx4a65c 131 yJx4a65c_add_72be8, Cond.instanceMethod yJx4a65c_add_72be8, Cond.selects RJx4a65c yJx4a65c_add_72be8 yJx4a65c_add_72be8, Cond.code yJx4a65c_add_72be8 cJx4a65c_add_72be8 4 none, Cond.methodLink RJx4a65c 129 yJx4a65c_grow_d5877, Cond.instanceMethod yJx4a65c_grow_d5877, Cond.selects RJx4a65c yJx4a65c_grow_d5877 yJx4a65c_grow_d5877, Cond.code yJx4a65c_grow_d5877 cJx4a65c_grow_d5877 1 (some (.array (.object "java/lang/Object"))), Cond.methodLink RJx4a65c 69 yJx4a65c_grow_92f84, Cond.instanceMethod yJx4a65c_grow_92f84, Cond.selects RJx4a65c yJx4a65c_grow_92f84 yJx4a65c_grow_92f84, Cond.code yJx4a65c_grow_92f84 cJx4a65c_grow_92f84 4 (some (.array (.object "java/lang/Object"))), Cond.fieldLink RJx4a65c 39 "java/util/ArrayList" "DEFAULTCAPACITY_EMPTY_ELEMENTDATA" "[Ljava/lang/Object;", Cond.methodLink RJx4a65c 79 Lib.Math.max.name, Cond.static Lib.Math.max.name, Cond.initialized "java/lang/Math", Cond.code Lib.Math.max.name Lib.Math.max.code 2 (some .int), Cond.classLink RJx4a65c 7 "java/lang/Object", Cond.methodLink RJx4a65c 73 yJ8_newLength_cabcc, Cond.static yJ8_newLength_cabcc, Cond.initialized RJ8, Cond.code yJ8_newLength_cabcc cJ8_newLength_cabcc 4 (some .int)]
def wsL_deliver_r8 : List Cond := [Cond.methodLink RJ8 194 Lib.Math.max.name, Cond.constant RJ8 200 (2147483639), Cond.methodLink RJ8 201 yJ8_hugeLength_7cf53, Cond.static yJ8_hugeLength_7cf53, Cond.code yJ8_hugeLength_7cf53 cJ8_hugeLength_7cf53 3 (some .int), Cond.methodLink RJx4a65c 66 yJ7_copyOf_1904c, Cond.static yJ7_copyOf_1904c, Cond.initialized RJ7, Cond.code yJ7_copyOf_1904c cJ7_copyOf_1904c 2 (some (.array (.object "java/lang/Object"))), Cond.methodLink RJ7 86 ⟨"java/lang/Object", "getClass", "()Ljava/lang/Class;"⟩, Cond.selects "[Ljava/lang/Object;" ⟨"java/lang/Object", "getClass", "()Ljava/lang/Class;"⟩ ⟨"java/lang/Object", "getClass", "()Ljava/lang/Class;"⟩, Cond.instanceMethod ⟨"java/lang/Object", "getClass", "()Ljava/lang/Class;"⟩, Cond.native ⟨"java/lang/Object", "getClass", "()Ljava/lang/Class;"⟩, Cond.methodLink RJ7 300 yJ7_copyOf_6403c, Cond.static yJ7_copyOf_6403c, Cond.code yJ7_copyOf_6403c cJ7_copyOf_6403c 4 (some (.array (.object "java/lang/Object"))), Cond.classLink RJ7 110 "[Ljava/lang/Object;", Cond.classLink RJ7 2 "java/lang/Object", Cond.methodLink RJ7 304 Lib.Math.min.name, Cond.static Lib.Math.min.name, Cond.code Lib.Math.min.name Lib.Math.min.code 2 (some .int), Cond.methodLink RJ7 150 arraycopyName, Cond.methodLink RX4 287 yX4_takeGrant, Cond.instanceMethod yX4_takeGrant]
def wsL_deliver_r9 : List Cond := [Cond.selects RX4 yX4_takeGrant yX4_takeGrant, Cond.code yX4_takeGrant cX4_takeGrant 4 none, Cond.methodLink RX4 290 yX4_takePrepare, Cond.instanceMethod yX4_takePrepare, Cond.selects RX4 yX4_takePrepare yX4_takePrepare, Cond.code yX4_takePrepare cX4_takePrepare 3 none, Cond.instanceMethod yX0_goesOnFrom, Cond.selects RX0 yX0_goesOnFrom yX0_goesOnFrom, Cond.code yX0_goesOnFrom cX0_goesOnFrom 2 (some .boolean), Cond.instanceMethod yX2_goesOnFrom, Cond.initialized RX2, Cond.selects RX2 yX2_goesOnFrom yX2_goesOnFrom, Cond.code yX2_goesOnFrom cX2_goesOnFrom 3 (some .boolean), Cond.fieldLink RX2 7 "NoticeStations$Standing" "entries" "[I", Cond.fieldLink RX2 13 "NoticeStations$Standing" "numbers" "[I", Cond.methodLink RX2 33 yX2_length, Cond.instanceMethod yX2_length, Cond.selects RX2 yX2_length yX2_length, Cond.code yX2_length cX2_length 1 (some .int), Cond.instanceMethod yX3_isPreparedFor, Cond.selects RX3 yX3_isPreparedFor yX3_isPreparedFor, Cond.code yX3_isPreparedFor cX3_isPreparedFor 2 (some .boolean), Cond.fieldLink RX3 19 "NoticeStations$Station" "preparedNumber" "I", Cond.methodLink RX4 293 yX4_takePrepared]
def wsL_deliver_r10 : List Cond := [Cond.instanceMethod yX4_takePrepared, Cond.selects RX4 yX4_takePrepared yX4_takePrepared, Cond.code yX4_takePrepared cX4_takePrepared 4 none, Cond.methodLink RX4 135 yX4_commitIfAllPrepared, Cond.instanceMethod yX4_commitIfAllPrepared, Cond.selects RX4 yX4_commitIfAllPrepared yX4_commitIfAllPrepared, Cond.code yX4_commitIfAllPrepared cX4_commitIfAllPrepared 4 none, Cond.instanceMethod yX3_forgetWrite, Cond.selects RX3 yX3_forgetWrite yX3_forgetWrite, Cond.code yX3_forgetWrite cX3_forgetWrite 1 none, Cond.fieldLink RX3 29 "NoticeStations$Station" "open" "LNoticeStations$OpenWrite;", Cond.methodLink RX4 296 yX4_takeCommit, Cond.instanceMethod yX4_takeCommit, Cond.selects RX4 yX4_takeCommit yX4_takeCommit, Cond.code yX4_takeCommit cX4_takeCommit 3 none, Cond.instanceMethod yX3_endDoubt, Cond.selects RX3 yX3_endDoubt yX3_endDoubt, Cond.code yX3_endDoubt cX3_endDoubt 1 none, Cond.methodLink RX4 299 yX4_takeAbort, Cond.instanceMethod yX4_takeAbort, Cond.selects RX4 yX4_takeAbort yX4_takeAbort, Cond.code yX4_takeAbort cX4_takeAbort 3 none, Cond.methodLink RX4 302 yX4_takeAsk, Cond.instanceMethod yX4_takeAsk]
def wsL_deliver_r11 : List Cond := [Cond.selects RX4 yX4_takeAsk yX4_takeAsk, Cond.code yX4_takeAsk cX4_takeAsk 3 none, Cond.instanceMethod yX2_hasNumber, Cond.selects RX2 yX2_hasNumber yX2_hasNumber, Cond.code yX2_hasNumber cX2_hasNumber 3 (some .boolean), Cond.instanceMethod yX3_hasEndedWrite, Cond.selects RX3 yX3_hasEndedWrite yX3_hasEndedWrite, Cond.code yX3_hasEndedWrite cX3_hasEndedWrite 2 (some .boolean), Cond.fieldLink RX3 33 "NoticeStations$Station" "own" "I", Cond.instanceMethod yX0_bookLength, Cond.selects RX0 yX0_bookLength yX0_bookLength, Cond.code yX0_bookLength cX0_bookLength 1 (some .int)]
def wsL_deliver : List Cond := .codeWith yL_deliver cL_deliver 4 (some .int) [(0, 9, 12, 13), (0, 9, 15, 21), (0, 9, 18, 23)] :: ((wsL_deliver_r1 ++ (wsL_deliver_r2 ++ (wsL_deliver_r3 ++ (wsL_deliver_r4 ++ (wsL_deliver_r5 ++ (wsL_deliver_r6 ++ (wsL_deliver_r7 ++ (wsL_deliver_r8 ++ (wsL_deliver_r9 ++ (wsL_deliver_r10 ++ wsL_deliver_r11)))))))))) ++ wsX40 ++ wsX00 ++ wsX30 ++ wsJx4a65c0 ++ wsX10 ++ wsX20 ++ (vx_atS RX4 95 "java/lang/IllegalStateException" ["java/lang/RuntimeException", "java/lang/Exception"]).filter goodWord ++ (vx_atS RX4 251 "java/lang/IndexOutOfBoundsException" ["java/lang/RuntimeException", "java/lang/Exception"]).filter goodWord ++ (vx_atS RX4 115 "java/lang/UnsupportedOperationException" ["java/lang/RuntimeException", "java/lang/Exception"]).filter goodWord)
def wsL_lose_r1 : List Cond := [Cond.classLink RL 13 "java/lang/IndexOutOfBoundsException", Cond.methodLink RL 59 yX4_lose, Cond.instanceMethod yX4_lose, Cond.selects RX4 yX4_lose yX4_lose, Cond.initialized RX4, Cond.code yX4_lose cX4_lose 2 none, Cond.fieldLink RX4 22 "NoticeStations" "row" "Ljava/util/ArrayList;", Cond.methodLink RX4 210 yX4_requireLetter, Cond.instanceMethod yX4_requireLetter, Cond.selects RX4 yX4_requireLetter yX4_requireLetter, Cond.code yX4_requireLetter cX4_requireLetter 2 none, Cond.classLink RX4 247 "java/lang/IndexOutOfBoundsException", Cond.initialized "java/lang/IndexOutOfBoundsException", Cond.methodLink RX4 175 yJx4a65c_size_8abf5, Cond.instanceMethod yJx4a65c_size_8abf5, Cond.selects RJx4a65c yJx4a65c_size_8abf5 yJx4a65c_size_8abf5, Cond.initialized RJx4a65c, Cond.code yJx4a65c_size_8abf5 cJx4a65c_size_8abf5 1 (some .int), Cond.fieldLink RJx4a65c 48 "java/util/ArrayList" "size" "I", Cond.methodLink RX4 46 yX4_isBelow, Cond.static yX4_isBelow, Cond.code yX4_isBelow cX4_isBelow 2 (some .boolean), Cond.methodLink RX4 199 yJx4a65c_remove_915e3, Cond.instanceMethod yJx4a65c_remove_915e3]
def wsL_lose_r2 : List Cond := [Cond.selects RJx4a65c yJx4a65c_remove_915e3 yJx4a65c_remove_915e3, Cond.code yJx4a65c_remove_915e3 cJx4a65c_remove_915e3 4 (some (.object "java/lang/Object")), Cond.fieldLink RJx4a65c 9 "java/util/ArrayList" "elementData" "[Ljava/lang/Object;", Cond.methodLink RJx4a65c 118 yJ15_checkIndex_7cf53, Cond.static yJ15_checkIndex_7cf53, Cond.initialized RJ15, Cond.code yJ15_checkIndex_7cf53 cJ15_checkIndex_7cf53 2 (some .int), Cond.methodLink RJ15 105 yJ3_checkIndex_8e157, Cond.static yJ3_checkIndex_8e157, Cond.initialized RJ3, Cond.code yJ3_checkIndex_8e157 cJ3_checkIndex_8e157 3 (some .int), Cond.methodLink RJx4a65c 144 yJx4a65c_fastRemove_b59b0, Cond.instanceMethod yJx4a65c_fastRemove_b59b0, Cond.selects RJx4a65c yJx4a65c_fastRemove_b59b0 yJx4a65c_fastRemove_b59b0, Cond.code yJx4a65c_fastRemove_b59b0 cJx4a65c_fastRemove_b59b0 4 none, Cond.fieldLink RJx4a65c 63 "java/util/ArrayList" "modCount" "I", Cond.sameField "java/util/ArrayList" "java/util/AbstractList" "modCount" "I", Cond.methodLink RJx4a65c 112 arraycopyName, Cond.native arraycopyName, Cond.static arraycopyName, Cond.initialized "java/lang/System"]
def wsL_lose : List Cond := .codeWith yL_lose cL_lose 3 (some .int) [(0, 5, 8, 13)] :: ((wsL_lose_r1 ++ wsL_lose_r2) ++ wsX40 ++ wsJx4a65c0 ++ (vx_atS RX4 251 "java/lang/IndexOutOfBoundsException" ["java/lang/RuntimeException", "java/lang/Exception"]).filter goodWord)
def wsL_twin_r1 : List Cond := [Cond.classLink RL 13 "java/lang/IndexOutOfBoundsException", Cond.classLink RL 23 "java/lang/UnsupportedOperationException", Cond.methodLink RL 62 yX4_twin, Cond.instanceMethod yX4_twin, Cond.selects RX4 yX4_twin yX4_twin, Cond.initialized RX4, Cond.code yX4_twin cX4_twin 3 none, Cond.fieldLink RX4 22 "NoticeStations" "row" "Ljava/util/ArrayList;", Cond.methodLink RX4 178 yX4_letterAt, Cond.instanceMethod yX4_letterAt, Cond.selects RX4 yX4_letterAt yX4_letterAt, Cond.code yX4_letterAt cX4_letterAt 2 (some (.object "NoticeStations$Letter")), Cond.classLink RX4 183 "NoticeStations$Letter", Cond.methodLink RX4 210 yX4_requireLetter, Cond.instanceMethod yX4_requireLetter, Cond.selects RX4 yX4_requireLetter yX4_requireLetter, Cond.code yX4_requireLetter cX4_requireLetter 2 none, Cond.classLink RX4 247 "java/lang/IndexOutOfBoundsException", Cond.initialized "java/lang/IndexOutOfBoundsException", Cond.methodLink RX4 175 yJx4a65c_size_8abf5, Cond.instanceMethod yJx4a65c_size_8abf5, Cond.selects RJx4a65c yJx4a65c_size_8abf5 yJx4a65c_size_8abf5, Cond.initialized RJx4a65c, Cond.code yJx4a65c_size_8abf5 cJx4a65c_size_8abf5 1 (some .int)]
def wsL_twin_r2 : List Cond := [Cond.fieldLink RJx4a65c 48 "java/util/ArrayList" "size" "I", Cond.methodLink RX4 46 yX4_isBelow, Cond.static yX4_isBelow, Cond.code yX4_isBelow cX4_isBelow 2 (some .boolean), Cond.methodLink RX4 256 yJx4a65c_get_915e3, Cond.instanceMethod yJx4a65c_get_915e3, Cond.selects RJx4a65c yJx4a65c_get_915e3 yJx4a65c_get_915e3, Cond.code yJx4a65c_get_915e3 cJx4a65c_get_915e3 2 (some (.object "java/lang/Object")), Cond.methodLink RJx4a65c 118 yJ15_checkIndex_7cf53, Cond.static yJ15_checkIndex_7cf53, Cond.initialized RJ15, Cond.code yJ15_checkIndex_7cf53 cJ15_checkIndex_7cf53 2 (some .int), Cond.methodLink RJ15 105 yJ3_checkIndex_8e157, Cond.static yJ3_checkIndex_8e157, Cond.initialized RJ3, Cond.code yJ3_checkIndex_8e157 cJ3_checkIndex_8e157 3 (some .int), Cond.methodLink RJx4a65c 123 yJx4a65c_elementData_915e3, Cond.instanceMethod yJx4a65c_elementData_915e3, Cond.selects RJx4a65c yJx4a65c_elementData_915e3 yJx4a65c_elementData_915e3, Cond.code yJx4a65c_elementData_915e3 cJx4a65c_elementData_915e3 2 (some (.object "java/lang/Object")), Cond.fieldLink RJx4a65c 9 "java/util/ArrayList" "elementData" "[Ljava/lang/Object;", Cond.methodLink RX4 119 yX4_requireRoomFor, Cond.instanceMethod yX4_requireRoomFor, Cond.selects RX4 yX4_requireRoomFor yX4_requireRoomFor]
def wsL_twin_r3 : List Cond := [Cond.code yX4_requireRoomFor cX4_requireRoomFor 2 none, Cond.classLink RX4 111 "java/lang/UnsupportedOperationException", Cond.initialized "java/lang/UnsupportedOperationException", Cond.methodLink RX4 213 yJx4a65c_add_9ea2d, Cond.instanceMethod yJx4a65c_add_9ea2d, Cond.selects RJx4a65c yJx4a65c_add_9ea2d yJx4a65c_add_9ea2d, Cond.code yJx4a65c_add_9ea2d cJx4a65c_add_9ea2d 2 (some .boolean), Cond.fieldLink RJx4a65c 63 "java/util/ArrayList" "modCount" "I", Cond.sameField "java/util/ArrayList" "java/util/AbstractList" "modCount" "I", Cond.methodLink RJx4a65c 131 yJx4a65c_add_72be8, Cond.instanceMethod yJx4a65c_add_72be8, Cond.selects RJx4a65c yJx4a65c_add_72be8 yJx4a65c_add_72be8, Cond.code yJx4a65c_add_72be8 cJx4a65c_add_72be8 4 none, Cond.methodLink RJx4a65c 129 yJx4a65c_grow_d5877, Cond.instanceMethod yJx4a65c_grow_d5877, Cond.selects RJx4a65c yJx4a65c_grow_d5877 yJx4a65c_grow_d5877, Cond.code yJx4a65c_grow_d5877 cJx4a65c_grow_d5877 1 (some (.array (.object "java/lang/Object"))), Cond.methodLink RJx4a65c 69 yJx4a65c_grow_92f84, Cond.instanceMethod yJx4a65c_grow_92f84, Cond.selects RJx4a65c yJx4a65c_grow_92f84 yJx4a65c_grow_92f84, Cond.code yJx4a65c_grow_92f84 cJx4a65c_grow_92f84 4 (some (.array (.object "java/lang/Object"))), Cond.fieldLink RJx4a65c 39 "java/util/ArrayList" "DEFAULTCAPACITY_EMPTY_ELEMENTDATA" "[Ljava/lang/Object;", Cond.methodLink RJx4a65c 79 Lib.Math.max.name, Cond.static Lib.Math.max.name]
def wsL_twin_r4 : List Cond := [Cond.initialized "java/lang/Math", Cond.code Lib.Math.max.name Lib.Math.max.code 2 (some .int), Cond.classLink RJx4a65c 7 "java/lang/Object", Cond.methodLink RJx4a65c 73 yJ8_newLength_cabcc, Cond.static yJ8_newLength_cabcc, Cond.initialized RJ8, Cond.code yJ8_newLength_cabcc cJ8_newLength_cabcc 4 (some .int), Cond.methodLink RJ8 194 Lib.Math.max.name, Cond.constant RJ8 200 (2147483639), Cond.methodLink RJ8 201 yJ8_hugeLength_7cf53, Cond.static yJ8_hugeLength_7cf53, Cond.code yJ8_hugeLength_7cf53 cJ8_hugeLength_7cf53 3 (some .int), Cond.methodLink RJx4a65c 66 yJ7_copyOf_1904c, Cond.static yJ7_copyOf_1904c, Cond.initialized RJ7, Cond.code yJ7_copyOf_1904c cJ7_copyOf_1904c 2 (some (.array (.object "java/lang/Object"))), Cond.methodLink RJ7 86 ⟨"java/lang/Object", "getClass", "()Ljava/lang/Class;"⟩, Cond.selects "[Ljava/lang/Object;" ⟨"java/lang/Object", "getClass", "()Ljava/lang/Class;"⟩ ⟨"java/lang/Object", "getClass", "()Ljava/lang/Class;"⟩, Cond.instanceMethod ⟨"java/lang/Object", "getClass", "()Ljava/lang/Class;"⟩, Cond.native ⟨"java/lang/Object", "getClass", "()Ljava/lang/Class;"⟩, Cond.methodLink RJ7 300 yJ7_copyOf_6403c, Cond.static yJ7_copyOf_6403c, Cond.code yJ7_copyOf_6403c cJ7_copyOf_6403c 4 (some (.array (.object "java/lang/Object"))), Cond.classLink RJ7 110 "[Ljava/lang/Object;"]
def wsL_twin_r5 : List Cond := [Cond.classLink RJ7 2 "java/lang/Object", Cond.methodLink RJ7 304 Lib.Math.min.name, Cond.static Lib.Math.min.name, Cond.code Lib.Math.min.name Lib.Math.min.code 2 (some .int), Cond.methodLink RJ7 150 arraycopyName, Cond.native arraycopyName, Cond.static arraycopyName, Cond.initialized "java/lang/System"]
def wsL_twin : List Cond := .codeWith yL_twin cL_twin 3 (some .int) [(0, 5, 8, 13), (0, 5, 11, 23)] :: ((wsL_twin_r1 ++ (wsL_twin_r2 ++ (wsL_twin_r3 ++ (wsL_twin_r4 ++ wsL_twin_r5)))) ++ wsX40 ++ wsJx4a65c0 ++ (vx_atS RX4 251 "java/lang/IndexOutOfBoundsException" ["java/lang/RuntimeException", "java/lang/Exception"]).filter goodWord ++ (vx_atS RX4 115 "java/lang/UnsupportedOperationException" ["java/lang/RuntimeException", "java/lang/Exception"]).filter goodWord)
def wsL_letter_r1 : List Cond := [Cond.classLink RL 13 "java/lang/IndexOutOfBoundsException", Cond.classLink RL 19 "java/lang/IllegalArgumentException", Cond.methodLink RL 65 yX4_letter, Cond.instanceMethod yX4_letter, Cond.selects RX4 yX4_letter yX4_letter, Cond.initialized RX4, Cond.code yX4_letter cX4_letter 4 (some .int), Cond.classLink RX4 50 "java/lang/IllegalArgumentException", Cond.initialized "java/lang/IllegalArgumentException", Cond.methodLink RX4 178 yX4_letterAt, Cond.instanceMethod yX4_letterAt, Cond.selects RX4 yX4_letterAt yX4_letterAt, Cond.code yX4_letterAt cX4_letterAt 2 (some (.object "NoticeStations$Letter")), Cond.fieldLink RX4 22 "NoticeStations" "row" "Ljava/util/ArrayList;", Cond.classLink RX4 183 "NoticeStations$Letter", Cond.methodLink RX4 210 yX4_requireLetter, Cond.instanceMethod yX4_requireLetter, Cond.selects RX4 yX4_requireLetter yX4_requireLetter, Cond.code yX4_requireLetter cX4_requireLetter 2 none, Cond.classLink RX4 247 "java/lang/IndexOutOfBoundsException", Cond.initialized "java/lang/IndexOutOfBoundsException", Cond.methodLink RX4 175 yJx4a65c_size_8abf5, Cond.instanceMethod yJx4a65c_size_8abf5, Cond.selects RJx4a65c yJx4a65c_size_8abf5 yJx4a65c_size_8abf5]
def wsL_letter_r2 : List Cond := [Cond.initialized RJx4a65c, Cond.code yJx4a65c_size_8abf5 cJx4a65c_size_8abf5 1 (some .int), Cond.fieldLink RJx4a65c 48 "java/util/ArrayList" "size" "I", Cond.methodLink RX4 46 yX4_isBelow, Cond.static yX4_isBelow, Cond.code yX4_isBelow cX4_isBelow 2 (some .boolean), Cond.methodLink RX4 256 yJx4a65c_get_915e3, Cond.instanceMethod yJx4a65c_get_915e3, Cond.selects RJx4a65c yJx4a65c_get_915e3 yJx4a65c_get_915e3, Cond.code yJx4a65c_get_915e3 cJx4a65c_get_915e3 2 (some (.object "java/lang/Object")), Cond.methodLink RJx4a65c 118 yJ15_checkIndex_7cf53, Cond.static yJ15_checkIndex_7cf53, Cond.initialized RJ15, Cond.code yJ15_checkIndex_7cf53 cJ15_checkIndex_7cf53 2 (some .int), Cond.methodLink RJ15 105 yJ3_checkIndex_8e157, Cond.static yJ3_checkIndex_8e157, Cond.initialized RJ3, Cond.code yJ3_checkIndex_8e157 cJ3_checkIndex_8e157 3 (some .int), Cond.methodLink RJx4a65c 123 yJx4a65c_elementData_915e3, Cond.instanceMethod yJx4a65c_elementData_915e3, Cond.selects RJx4a65c yJx4a65c_elementData_915e3 yJx4a65c_elementData_915e3, Cond.code yJx4a65c_elementData_915e3 cJx4a65c_elementData_915e3 2 (some (.object "java/lang/Object")), Cond.fieldLink RJx4a65c 9 "java/util/ArrayList" "elementData" "[Ljava/lang/Object;"]
def wsL_letter : List Cond := .codeWith yL_letter cL_letter 5 (some .int) [(0, 10, 13, 13), (0, 10, 17, 19)] :: ((wsL_letter_r1 ++ wsL_letter_r2) ++ wsX00 ++ wsX40 ++ wsJx4a65c0 ++ (vx_atS RX4 54 "java/lang/IllegalArgumentException" ["java/lang/RuntimeException", "java/lang/Exception"]).filter goodWord ++ (vx_atS RX4 251 "java/lang/IndexOutOfBoundsException" ["java/lang/RuntimeException", "java/lang/Exception"]).filter goodWord)
def wsL_count : List Cond := .codeWith yL_count cL_count 4 (some .int) [(0, 9, 12, 13)] :: ([.classLink RL 13 "java/lang/IndexOutOfBoundsException", .methodLink RL 68 yX4_count, .instanceMethod yX4_count, .selects RX4 yX4_count yX4_count, .initialized RX4, .code yX4_count cX4_count 2 (some .int), .methodLink RX4 42 yX4_stationAt, .instanceMethod yX4_stationAt, .selects RX4 yX4_stationAt yX4_stationAt, .code yX4_stationAt cX4_stationAt 2 (some (.object "NoticeStations$Station")), .classLink RX4 247 "java/lang/IndexOutOfBoundsException", .initialized "java/lang/IndexOutOfBoundsException", .fieldLink RX4 11 "NoticeStations" "stations" "[LNoticeStations$Station;", .methodLink RX4 46 yX4_isBelow, .static yX4_isBelow, .code yX4_isBelow cX4_isBelow 2 (some .boolean), .instanceMethod yX2_length, .initialized RX2, .selects RX2 yX2_length yX2_length, .code yX2_length cX2_length 1 (some .int), .fieldLink RX2 7 "NoticeStations$Standing" "entries" "[I"] ++ wsX30 ++ wsX40 ++ wsX20 ++ (vx_atS RX4 251 "java/lang/IndexOutOfBoundsException" ["java/lang/RuntimeException", "java/lang/Exception"]).filter goodWord)
def wsL_entry : List Cond := .codeWith yL_entry cL_entry 6 (some .int) [(0, 12, 15, 13), (0, 12, 19, 29)] :: ([.classLink RL 13 "java/lang/IndexOutOfBoundsException", .classLink RL 29 "java/util/NoSuchElementException", .methodLink RL 71 yX4_entry, .instanceMethod yX4_entry, .selects RX4 yX4_entry yX4_entry, .initialized RX4, .code yX4_entry cX4_entry 5 (some .int), .classLink RX4 72 "java/util/NoSuchElementException", .initialized "java/util/NoSuchElementException", .methodLink RX4 42 yX4_stationAt, .instanceMethod yX4_stationAt, .selects RX4 yX4_stationAt yX4_stationAt, .code yX4_stationAt cX4_stationAt 2 (some (.object "NoticeStations$Station")), .classLink RX4 247 "java/lang/IndexOutOfBoundsException", .initialized "java/lang/IndexOutOfBoundsException", .fieldLink RX4 11 "NoticeStations" "stations" "[LNoticeStations$Station;", .methodLink RX4 46 yX4_isBelow, .static yX4_isBelow, .code yX4_isBelow cX4_isBelow 2 (some .boolean), .instanceMethod yX2_length, .initialized RX2, .selects RX2 yX2_length yX2_length, .code yX2_length cX2_length 1 (some .int), .fieldLink RX2 7 "NoticeStations$Standing" "entries" "[I"] ++ wsX30 ++ wsX20 ++ wsX40 ++ (vx_atS RX4 76 "java/util/NoSuchElementException" ["java/lang/RuntimeException", "java/lang/Exception"]).filter goodWord ++ (vx_atS RX4 251 "java/lang/IndexOutOfBoundsException" ["java/lang/RuntimeException", "java/lang/Exception"]).filter goodWord)
def wsL_about : List Cond := .codeWith yL_about cL_about 5 (some .int) [(0, 10, 13, 13), (0, 10, 17, 19)] :: ([.classLink RL 13 "java/lang/IndexOutOfBoundsException", .classLink RL 19 "java/lang/IllegalArgumentException", .methodLink RL 75 yX4_about, .instanceMethod yX4_about, .selects RX4 yX4_about yX4_about, .initialized RX4, .code yX4_about cX4_about 4 (some .int), .classLink RX4 50 "java/lang/IllegalArgumentException", .initialized "java/lang/IllegalArgumentException", .methodLink RX4 42 yX4_stationAt, .instanceMethod yX4_stationAt, .selects RX4 yX4_stationAt yX4_stationAt, .code yX4_stationAt cX4_stationAt 2 (some (.object "NoticeStations$Station")), .classLink RX4 247 "java/lang/IndexOutOfBoundsException", .initialized "java/lang/IndexOutOfBoundsException", .fieldLink RX4 11 "NoticeStations" "stations" "[LNoticeStations$Station;", .methodLink RX4 46 yX4_isBelow, .static yX4_isBelow, .code yX4_isBelow cX4_isBelow 2 (some .boolean)] ++ wsX30 ++ wsX20 ++ wsX10 ++ wsX40 ++ (vx_atS RX4 54 "java/lang/IllegalArgumentException" ["java/lang/RuntimeException", "java/lang/Exception"]).filter goodWord ++ (vx_atS RX4 251 "java/lang/IndexOutOfBoundsException" ["java/lang/RuntimeException", "java/lang/Exception"]).filter goodWord)
def wsL_allowed_r1 : List Cond := [Cond.classLink RL 19 "java/lang/IllegalArgumentException", Cond.methodLink RL 78 yX4_allowed, Cond.instanceMethod yX4_allowed, Cond.selects RX4 yX4_allowed yX4_allowed, Cond.initialized RX4, Cond.code yX4_allowed cX4_allowed 4 (some .boolean), Cond.classLink RX4 50 "java/lang/IllegalArgumentException", Cond.initialized "java/lang/IllegalArgumentException", Cond.fieldLink RX4 11 "NoticeStations" "stations" "[LNoticeStations$Station;", Cond.fieldLink RX4 28 "NoticeStations" "asIfGranted" "[LNoticeStations$Standing;", Cond.methodLink RX4 46 yX4_isBelow, Cond.static yX4_isBelow, Cond.code yX4_isBelow cX4_isBelow 2 (some .boolean), Cond.instanceMethod yX3_isFree, Cond.initialized RX3, Cond.selects RX3 yX3_isFree yX3_isFree, Cond.code yX3_isFree cX3_isFree 1 (some .boolean), Cond.fieldLink RX3 9 "NoticeStations$Station" "up" "Z", Cond.fieldLink RX3 26 "NoticeStations$Station" "lock" "I", Cond.methodLink RX3 39 yX3_isInDoubt, Cond.instanceMethod yX3_isInDoubt, Cond.selects RX3 yX3_isInDoubt yX3_isInDoubt, Cond.code yX3_isInDoubt cX3_isInDoubt 1 (some .boolean), Cond.fieldLink RX3 22 "NoticeStations$Station" "preparedStanding" "LNoticeStations$Standing;"]
def wsL_allowed_r2 : List Cond := [Cond.methodLink RX4 99 yX4_heldByHolders, Cond.static yX4_heldByHolders, Cond.code yX4_heldByHolders cX4_heldByHolders 3 (some (.object "NoticeStations$Standing")), Cond.instanceMethod yX2_length, Cond.initialized RX2, Cond.selects RX2 yX2_length yX2_length, Cond.code yX2_length cX2_length 1 (some .int), Cond.fieldLink RX2 7 "NoticeStations$Standing" "entries" "[I", Cond.methodLink RX4 103 yX4_mayGoOn, Cond.static yX4_mayGoOn, Cond.code yX4_mayGoOn cX4_mayGoOn 5 (some .boolean)]
def wsL_allowed : List Cond := .codeWith yL_allowed cL_allowed 4 (some .int) [(0, 16, 19, 19)] :: ((wsL_allowed_r1 ++ wsL_allowed_r2) ++ wsX40 ++ wsX30 ++ wsX20 ++ (vx_atS RX4 54 "java/lang/IllegalArgumentException" ["java/lang/RuntimeException", "java/lang/Exception"]).filter goodWord)
def wsL_inForce_r1 : List Cond := [Cond.classLink RL 13 "java/lang/IndexOutOfBoundsException", Cond.methodLink RL 81 yX4_inForce, Cond.instanceMethod yX4_inForce, Cond.selects RX4 yX4_inForce yX4_inForce, Cond.initialized RX4, Cond.code yX4_inForce cX4_inForce 7 (some .int), Cond.methodLink RX4 42 yX4_stationAt, Cond.instanceMethod yX4_stationAt, Cond.selects RX4 yX4_stationAt yX4_stationAt, Cond.code yX4_stationAt cX4_stationAt 2 (some (.object "NoticeStations$Station")), Cond.classLink RX4 247 "java/lang/IndexOutOfBoundsException", Cond.initialized "java/lang/IndexOutOfBoundsException", Cond.fieldLink RX4 11 "NoticeStations" "stations" "[LNoticeStations$Station;", Cond.methodLink RX4 46 yX4_isBelow, Cond.static yX4_isBelow, Cond.code yX4_isBelow cX4_isBelow 2 (some .boolean), Cond.instanceMethod yX2_length, Cond.initialized RX2, Cond.selects RX2 yX2_length yX2_length, Cond.code yX2_length cX2_length 1 (some .int), Cond.fieldLink RX2 7 "NoticeStations$Standing" "entries" "[I", Cond.instanceMethod yX2_hasNoticeAt, Cond.selects RX2 yX2_hasNoticeAt yX2_hasNoticeAt, Cond.code yX2_hasNoticeAt cX2_hasNoticeAt 2 (some .boolean)]
def wsL_inForce_r2 : List Cond := [Cond.methodLink RX4 243 yX4_isOn, Cond.static yX4_isOn, Cond.code yX4_isOn cX4_isOn 5 (some .boolean), Cond.instanceMethod yX2_isWithdrawn, Cond.selects RX2 yX2_isWithdrawn yX2_isWithdrawn, Cond.code yX2_isWithdrawn cX2_isWithdrawn 4 (some .boolean), Cond.static yX4_withdrawalOf, Cond.code yX4_withdrawalOf cX4_withdrawalOf 1 (some .int)]
def wsL_inForce : List Cond := .codeWith yL_inForce cL_inForce 6 (some .int) [(0, 12, 15, 13)] :: ((wsL_inForce_r1 ++ wsL_inForce_r2) ++ wsX30 ++ wsX20 ++ wsX40 ++ (vx_atS RX4 251 "java/lang/IndexOutOfBoundsException" ["java/lang/RuntimeException", "java/lang/Exception"]).filter goodWord)
end
section
abbrev vwCl : List vw_C := [(RJx4a65c, TJx4a65c, 3), (RX0, TX0, 5), (RX1, TX1, 5), (RX2, TX2, 4), (RX3, TX3, 8), (RX4, TX4, 4), (RX5, TX5, 29)]

def wsL_law0_r1 : List Cond := [Cond.classLink RL 8 RX4, Cond.instantiable RX4 4, Cond.initialized RX4, Cond.classLink RL 86 RX5, Cond.instantiable RX5 29, Cond.initialized RX5, Cond.arrayClass .long, Cond.methodLink RL 85 yX4_init, Cond.instanceMethod yX4_init, Cond.code yX4_init cX4_init 3 none, Cond.methodLink RX4 1 objectInit, Cond.instanceMethod objectInit, Cond.code objectInit ⟨#[0xb1]⟩ 1 none, Cond.classLink RX4 9 RX3, Cond.fieldLink RX4 11 "NoticeStations" "stations" "[LNoticeStations$Station;", Cond.arrayClass .int, Cond.fieldLink RX4 15 "NoticeStations" "cables" "[I", Cond.classLink RX4 19 RJx4a65c, Cond.instantiable RJx4a65c 3, Cond.initialized RJx4a65c, Cond.fieldLink RX4 22 "NoticeStations" "row" "Ljava/util/ArrayList;", Cond.classLink RX4 26 RX2, Cond.fieldLink RX4 28 "NoticeStations" "asIfGranted" "[LNoticeStations$Standing;", Cond.instantiable RX2 4]
def wsL_law0_r2 : List Cond := [Cond.initialized RX2, Cond.instantiable RX3 8, Cond.initialized RX3, Cond.methodLink RX4 21 yJx4a65c_init_da8c8, Cond.instanceMethod yJx4a65c_init_da8c8, Cond.code yJx4a65c_init_da8c8 cJx4a65c_init_da8c8 1 none, Cond.fieldLink RJx4a65c 39 "java/util/ArrayList" "DEFAULTCAPACITY_EMPTY_ELEMENTDATA" "[Ljava/lang/Object;", Cond.fieldLink RJx4a65c 9 "java/util/ArrayList" "elementData" "[Ljava/lang/Object;", Cond.methodLink RJx4a65c 1 yJxc12de_init_da8c8, Cond.instanceMethod yJxc12de_init_da8c8, Cond.initialized RJxc12de, Cond.code yJxc12de_init_da8c8 cJxc12de_init_da8c8 1 none, Cond.fieldLink RJxc12de 7 "java/util/AbstractList" "modCount" "I", Cond.methodLink RJxc12de 1 yJxa1e45_init_da8c8, Cond.instanceMethod yJxa1e45_init_da8c8, Cond.initialized RJxa1e45, Cond.code yJxa1e45_init_da8c8 cJxa1e45_init_da8c8 1 none, Cond.methodLink RJxa1e45 1 objectInit, Cond.instanceMethod yX2_init, Cond.code yX2_init cX2_init 5 none, Cond.methodLink RX2 1 objectInit, Cond.fieldLink RX2 7 "NoticeStations$Standing" "entries" "[I", Cond.fieldLink RX2 13 "NoticeStations$Standing" "numbers" "[I", Cond.fieldLink RX2 16 "NoticeStations$Standing" "size" "I"]
def wsL_law0_r3 : List Cond := [Cond.fieldLink RX2 20 "NoticeStations$Standing" "named" "I", Cond.instanceMethod yX3_init, Cond.code yX3_init cX3_init 3 none, Cond.methodLink RX3 3 objectInit, Cond.fieldLink RX3 9 "NoticeStations$Station" "up" "Z", Cond.fieldLink RX3 15 "NoticeStations$Station" "began" "I", Cond.fieldLink RX3 19 "NoticeStations$Station" "preparedNumber" "I", Cond.fieldLink RX3 22 "NoticeStations$Station" "preparedStanding" "LNoticeStations$Standing;", Cond.fieldLink RX3 26 "NoticeStations$Station" "lock" "I", Cond.fieldLink RX3 29 "NoticeStations$Station" "open" "LNoticeStations$OpenWrite;", Cond.fieldLink RX3 33 "NoticeStations$Station" "own" "I", Cond.fieldLink RX3 36 "NoticeStations$Station" "stored" "LNoticeStations$Standing;", Cond.methodLink RL 88 yX5_init, Cond.instanceMethod yX5_init, Cond.code yX5_init cX5_init 1 none, Cond.methodLink RX5 1 objectInit, Cond.fieldLink RX5 7 "NoticeStationsModel" "states" "I", Cond.fieldLink RX5 13 "NoticeStationsModel" "length" "[I", Cond.fieldLink RX5 17 "NoticeStationsModel" "earlier" "[I", Cond.fieldLink RX5 20 "NoticeStationsModel" "entryOf" "[I", Cond.fieldLink RX5 23 "NoticeStationsModel" "writeOf" "[I", Cond.fieldLink RX5 26 "NoticeStationsModel" "sizeOf" "[I", Cond.fieldLink RX5 29 "NoticeStationsModel" "namedOf" "[I", Cond.fieldLink RX5 32 "NoticeStationsModel" "state" "[I"]
def wsL_law0_r4 : List Cond := [Cond.fieldLink RX5 35 "NoticeStationsModel" "began" "[I", Cond.fieldLink RX5 38 "NoticeStationsModel" "preparedFor" "[I", Cond.fieldLink RX5 41 "NoticeStationsModel" "preparedState" "[I", Cond.arrayClass .boolean, Cond.fieldLink RX5 44 "NoticeStationsModel" "stopped" "[Z", Cond.fieldLink RX5 48 "NoticeStationsModel" "lock" "[I", Cond.fieldLink RX5 51 "NoticeStationsModel" "open" "[I", Cond.fieldLink RX5 54 "NoticeStationsModel" "openEntry" "[I", Cond.fieldLink RX5 57 "NoticeStationsModel" "made" "[I", Cond.fieldLink RX5 60 "NoticeStationsModel" "group" "[I", Cond.fieldLink RX5 63 "NoticeStationsModel" "done" "[I", Cond.fieldLink RX5 66 "NoticeStationsModel" "granted" "[I", Cond.fieldLink RX5 69 "NoticeStationsModel" "torn" "[Z", Cond.fieldLink RX5 72 "NoticeStationsModel" "mark" "[I", Cond.fieldLink RX5 75 "NoticeStationsModel" "kind" "[I", Cond.fieldLink RX5 78 "NoticeStationsModel" "from" "[I", Cond.fieldLink RX5 81 "NoticeStationsModel" "to" "[I", Cond.fieldLink RX5 84 "NoticeStationsModel" "write" "[I", Cond.fieldLink RX5 87 "NoticeStationsModel" "with" "[I", Cond.fieldLink RX5 90 "NoticeStationsModel" "asked" "[I", Cond.methodLink RL 89 yL_cable, Cond.static yL_cable, Cond.initialized RL, Cond.codeWith yL_cable cL_cable 6 (some .int) [(0, 19, 22, 13)]]
def wsL_law0_r5 : List Cond := [Cond.classLink RL 13 "java/lang/IndexOutOfBoundsException", Cond.methodLink RL 7 yX4_cable, Cond.instanceMethod yX4_cable, Cond.selects RX4 yX4_cable yX4_cable, Cond.code yX4_cable cX4_cable 5 (some .boolean), Cond.methodLink RX4 38 yX4_requireTwoStations, Cond.instanceMethod yX4_requireTwoStations, Cond.selects RX4 yX4_requireTwoStations yX4_requireTwoStations, Cond.code yX4_requireTwoStations cX4_requireTwoStations 3 none, Cond.classLink RX4 247 "java/lang/IndexOutOfBoundsException", Cond.initialized "java/lang/IndexOutOfBoundsException", Cond.methodLink RX4 46 yX4_isBelow, Cond.static yX4_isBelow, Cond.code yX4_isBelow cX4_isBelow 2 (some .boolean), Cond.methodLink RL 94 yX5_cable, Cond.instanceMethod yX5_cable, Cond.selects RX5 yX5_cable yX5_cable, Cond.code yX5_cable cX5_cable 4 (some .boolean), Cond.fieldLink RX5 93 "NoticeStationsModel" "thrown" "I", Cond.methodLink RX5 111 yX5_isOne, Cond.static yX5_isOne, Cond.code yX5_isOne cX5_isOne 1 (some .boolean), Cond.methodLink RL 95 yX5_thrown, Cond.instanceMethod yX5_thrown]
def wsL_law0_r6 : List Cond := [Cond.selects RX5 yX5_thrown yX5_thrown, Cond.code yX5_thrown cX5_thrown 1 (some .int), Cond.methodLink RL 99 yL_write, Cond.static yL_write, Cond.codeWith yL_write cL_write 7 (some .int) [(0, 14, 17, 13), (0, 14, 21, 19), (0, 14, 25, 21), (0, 14, 29, 23)], Cond.classLink RL 19 "java/lang/IllegalArgumentException", Cond.classLink RL 21 "java/lang/IllegalStateException", Cond.classLink RL 23 "java/lang/UnsupportedOperationException", Cond.methodLink RL 15 yX4_write, Cond.instanceMethod yX4_write, Cond.selects RX4 yX4_write yX4_write, Cond.code yX4_write cX4_write 6 (some .int), Cond.classLink RX4 50 "java/lang/IllegalArgumentException", Cond.initialized "java/lang/IllegalArgumentException", Cond.methodLink RX4 42 yX4_stationAt, Cond.instanceMethod yX4_stationAt, Cond.selects RX4 yX4_stationAt yX4_stationAt, Cond.code yX4_stationAt cX4_stationAt 2 (some (.object "NoticeStations$Station")), Cond.methodLink RX4 57 yX4_beginWrite, Cond.instanceMethod yX4_beginWrite, Cond.selects RX4 yX4_beginWrite yX4_beginWrite, Cond.code yX4_beginWrite cX4_beginWrite 4 (some .int), Cond.classLink RX4 91 "java/lang/IllegalStateException", Cond.initialized "java/lang/IllegalStateException"]
def wsL_law0_r7 : List Cond := [Cond.classLink RX4 111 "java/lang/UnsupportedOperationException", Cond.initialized "java/lang/UnsupportedOperationException", Cond.classLink RX4 86 RX1, Cond.instantiable RX1 5, Cond.initialized RX1, Cond.instanceMethod yX3_isFree, Cond.selects RX3 yX3_isFree yX3_isFree, Cond.code yX3_isFree cX3_isFree 1 (some .boolean), Cond.methodLink RX3 39 yX3_isInDoubt, Cond.instanceMethod yX3_isInDoubt, Cond.selects RX3 yX3_isInDoubt yX3_isInDoubt, Cond.code yX3_isInDoubt cX3_isInDoubt 1 (some .boolean), Cond.instanceMethod yX2_length, Cond.selects RX2 yX2_length yX2_length, Cond.code yX2_length cX2_length 1 (some .int), Cond.methodLink RX4 119 yX4_requireRoomFor, Cond.instanceMethod yX4_requireRoomFor, Cond.selects RX4 yX4_requireRoomFor yX4_requireRoomFor, Cond.code yX4_requireRoomFor cX4_requireRoomFor 2 none, Cond.methodLink RX4 175 yJx4a65c_size_8abf5, Cond.instanceMethod yJx4a65c_size_8abf5, Cond.selects RJx4a65c yJx4a65c_size_8abf5 yJx4a65c_size_8abf5, Cond.code yJx4a65c_size_8abf5 cJx4a65c_size_8abf5 1 (some .int), Cond.fieldLink RJx4a65c 48 "java/util/ArrayList" "size" "I"]
def wsL_law0_r8 : List Cond := [Cond.instanceMethod yX1_init, Cond.code yX1_init cX1_init 3 none, Cond.methodLink RX1 3 objectInit, Cond.classLink RX1 9 RX2, Cond.fieldLink RX1 11 "NoticeStations$OpenWrite" "granted" "[LNoticeStations$Standing;", Cond.fieldLink RX1 17 "NoticeStations$OpenWrite" "prepared" "[Z", Cond.fieldLink RX1 21 "NoticeStations$OpenWrite" "next" "LNoticeStations$Standing;", Cond.fieldLink RX1 25 "NoticeStations$OpenWrite" "number" "I", Cond.fieldLink RX1 29 "NoticeStations$OpenWrite" "entry" "I", Cond.methodLink RX4 131 yX4_sendAwaited, Cond.instanceMethod yX4_sendAwaited, Cond.selects RX4 yX4_sendAwaited yX4_sendAwaited, Cond.code yX4_sendAwaited cX4_sendAwaited 4 none, Cond.instanceMethod yX1_awaits, Cond.selects RX1 yX1_awaits yX1_awaits, Cond.code yX1_awaits cX1_awaits 2 (some .boolean), Cond.methodLink RX1 32 yX1_isCollecting, Cond.instanceMethod yX1_isCollecting, Cond.selects RX1 yX1_isCollecting yX1_isCollecting, Cond.code yX1_isCollecting cX1_isCollecting 1 (some .boolean), Cond.methodLink RX1 36 yX1_isOfGroup, Cond.instanceMethod yX1_isOfGroup, Cond.selects RX1 yX1_isOfGroup yX1_isOfGroup, Cond.code yX1_isOfGroup cX1_isOfGroup 2 (some .boolean)]
def wsL_law0_r9 : List Cond := [Cond.methodLink RX4 148 yX4_send, Cond.instanceMethod yX4_send, Cond.selects RX4 yX4_send yX4_send, Cond.code yX4_send cX4_send 6 none, Cond.classLink RX4 183 RX0, Cond.instantiable RX0 5, Cond.initialized RX0, Cond.instanceMethod yX0_init, Cond.code yX0_init cX0_init 6 none, Cond.methodLink RX0 1 objectInit, Cond.fieldLink RX0 7 "NoticeStations$Letter" "kind" "I", Cond.fieldLink RX0 13 "NoticeStations$Letter" "from" "I", Cond.fieldLink RX0 16 "NoticeStations$Letter" "to" "I", Cond.fieldLink RX0 19 "NoticeStations$Letter" "number" "I", Cond.fieldLink RX0 22 "NoticeStations$Letter" "standing" "LNoticeStations$Standing;", Cond.methodLink RX4 213 yJx4a65c_add_9ea2d, Cond.instanceMethod yJx4a65c_add_9ea2d, Cond.selects RJx4a65c yJx4a65c_add_9ea2d yJx4a65c_add_9ea2d, Cond.code yJx4a65c_add_9ea2d cJx4a65c_add_9ea2d 2 (some .boolean), Cond.fieldLink RJx4a65c 63 "java/util/ArrayList" "modCount" "I", Cond.sameField "java/util/ArrayList" "java/util/AbstractList" "modCount" "I", Cond.methodLink RJx4a65c 131 yJx4a65c_add_72be8, Cond.instanceMethod yJx4a65c_add_72be8, Cond.selects RJx4a65c yJx4a65c_add_72be8 yJx4a65c_add_72be8]
def wsL_law0_r10 : List Cond := [Cond.code yJx4a65c_add_72be8 cJx4a65c_add_72be8 4 none, Cond.methodLink RJx4a65c 129 yJx4a65c_grow_d5877, Cond.instanceMethod yJx4a65c_grow_d5877, Cond.selects RJx4a65c yJx4a65c_grow_d5877 yJx4a65c_grow_d5877, Cond.code yJx4a65c_grow_d5877 cJx4a65c_grow_d5877 1 (some (.array (.object "java/lang/Object"))), Cond.methodLink RJx4a65c 69 yJx4a65c_grow_92f84, Cond.instanceMethod yJx4a65c_grow_92f84, Cond.selects RJx4a65c yJx4a65c_grow_92f84 yJx4a65c_grow_92f84, Cond.code yJx4a65c_grow_92f84 cJx4a65c_grow_92f84 4 (some (.array (.object "java/lang/Object"))), Cond.methodLink RJx4a65c 79 Lib.Math.max.name, Cond.static Lib.Math.max.name, Cond.initialized "java/lang/Math", Cond.code Lib.Math.max.name Lib.Math.max.code 2 (some .int), Cond.classLink RJx4a65c 7 "java/lang/Object", Cond.methodLink RJx4a65c 73 yJ8_newLength_cabcc, Cond.static yJ8_newLength_cabcc, Cond.initialized RJ8, Cond.code yJ8_newLength_cabcc cJ8_newLength_cabcc 4 (some .int), Cond.methodLink RJ8 194 Lib.Math.max.name, Cond.constant RJ8 200 (2147483639), Cond.methodLink RJ8 201 yJ8_hugeLength_7cf53, Cond.static yJ8_hugeLength_7cf53, Cond.code yJ8_hugeLength_7cf53 cJ8_hugeLength_7cf53 3 (some .int), Cond.methodLink RJx4a65c 66 yJ7_copyOf_1904c]
def wsL_law0_r11 : List Cond := [Cond.static yJ7_copyOf_1904c, Cond.initialized RJ7, Cond.code yJ7_copyOf_1904c cJ7_copyOf_1904c 2 (some (.array (.object "java/lang/Object"))), Cond.methodLink RJ7 86 ⟨"java/lang/Object", "getClass", "()Ljava/lang/Class;"⟩, Cond.selects "[Ljava/lang/Object;" ⟨"java/lang/Object", "getClass", "()Ljava/lang/Class;"⟩ ⟨"java/lang/Object", "getClass", "()Ljava/lang/Class;"⟩, Cond.instanceMethod ⟨"java/lang/Object", "getClass", "()Ljava/lang/Class;"⟩, Cond.native ⟨"java/lang/Object", "getClass", "()Ljava/lang/Class;"⟩, Cond.methodLink RJ7 300 yJ7_copyOf_6403c, Cond.static yJ7_copyOf_6403c, Cond.code yJ7_copyOf_6403c cJ7_copyOf_6403c 4 (some (.array (.object "java/lang/Object"))), Cond.classLink RJ7 110 "[Ljava/lang/Object;", Cond.classLink RJ7 2 "java/lang/Object", Cond.methodLink RJ7 304 Lib.Math.min.name, Cond.static Lib.Math.min.name, Cond.code Lib.Math.min.name Lib.Math.min.code 2 (some .int), Cond.methodLink RJ7 150 arraycopyName, Cond.native arraycopyName, Cond.static arraycopyName, Cond.initialized "java/lang/System", Cond.methodLink RL 102 yX5_write, Cond.instanceMethod yX5_write, Cond.selects RX5 yX5_write yX5_write, Cond.code yX5_write cX5_write 6 (some .int), Cond.methodLink RX5 124 yX5_begin]
def wsL_law0_r12 : List Cond := [Cond.instanceMethod yX5_begin, Cond.selects RX5 yX5_begin yX5_begin, Cond.code yX5_begin cX5_begin 4 (some .int), Cond.methodLink RX5 115 yX5_isFree, Cond.instanceMethod yX5_isFree, Cond.selects RX5 yX5_isFree yX5_isFree, Cond.code yX5_isFree cX5_isFree 2 (some .boolean), Cond.methodLink RX5 118 yX5_isFull, Cond.instanceMethod yX5_isFull, Cond.selects RX5 yX5_isFull yX5_isFull, Cond.code yX5_isFull cX5_isFull 2 (some .boolean), Cond.fieldLink RX5 104 "NoticeStationsModel" "letters" "I", Cond.methodLink RX5 121 yX5_sendAll, Cond.instanceMethod yX5_sendAll, Cond.selects RX5 yX5_sendAll yX5_sendAll, Cond.code yX5_sendAll cX5_sendAll 7 none, Cond.methodLink RX5 96 yX5_has, Cond.static yX5_has, Cond.code yX5_has cX5_has 2 (some .boolean), Cond.methodLink RX5 107 yX5_send, Cond.instanceMethod yX5_send, Cond.selects RX5 yX5_send yX5_send, Cond.code yX5_send cX5_send 6 none, Cond.methodLink RL 103 yL_withdraw]
def wsL_law0_r13 : List Cond := [Cond.static yL_withdraw, Cond.codeWith yL_withdraw cL_withdraw 5 (some .int) [(0, 10, 13, 13), (0, 10, 17, 29), (0, 10, 21, 21), (0, 10, 25, 23)], Cond.classLink RL 29 "java/util/NoSuchElementException", Cond.methodLink RL 25 yX4_withdraw, Cond.instanceMethod yX4_withdraw, Cond.selects RX4 yX4_withdraw yX4_withdraw, Cond.code yX4_withdraw cX4_withdraw 4 (some .int), Cond.classLink RX4 72 "java/util/NoSuchElementException", Cond.initialized "java/util/NoSuchElementException", Cond.instanceMethod yX2_hasNoticeAt, Cond.selects RX2 yX2_hasNoticeAt yX2_hasNoticeAt, Cond.code yX2_hasNoticeAt cX2_hasNoticeAt 2 (some .boolean), Cond.instanceMethod yX2_isWithdrawn, Cond.selects RX2 yX2_isWithdrawn yX2_isWithdrawn, Cond.code yX2_isWithdrawn cX2_isWithdrawn 4 (some .boolean), Cond.static yX4_withdrawalOf, Cond.code yX4_withdrawalOf cX4_withdrawalOf 1 (some .int), Cond.methodLink RX4 77 yX4_withdrawalOf, Cond.methodLink RL 106 yX5_withdraw, Cond.instanceMethod yX5_withdraw, Cond.selects RX5 yX5_withdraw yX5_withdraw, Cond.code yX5_withdraw cX5_withdraw 3 (some .int), Cond.methodLink RX5 127 yX5_isNotice, Cond.instanceMethod yX5_isNotice]
def wsL_law0_r14 : List Cond := [Cond.selects RX5 yX5_isNotice yX5_isNotice, Cond.code yX5_isNotice cX5_isNotice 4 (some .boolean), Cond.methodLink RX5 100 yX5_back, Cond.instanceMethod yX5_back, Cond.selects RX5 yX5_back yX5_back, Cond.code yX5_back cX5_back 4 (some .int), Cond.methodLink RL 107 yL_decide, Cond.static yL_decide, Cond.codeWith yL_decide cL_decide 4 (some .int) [(0, 16, 19, 13), (0, 16, 22, 21), (0, 16, 25, 23)], Cond.methodLink RL 31 yX4_decide, Cond.instanceMethod yX4_decide, Cond.selects RX4 yX4_decide yX4_decide, Cond.code yX4_decide cX4_decide 5 (some .boolean), Cond.methodLink RX4 99 yX4_heldByHolders, Cond.static yX4_heldByHolders, Cond.code yX4_heldByHolders cX4_heldByHolders 3 (some (.object "NoticeStations$Standing")), Cond.methodLink RX4 103 yX4_mayGoOn, Cond.static yX4_mayGoOn, Cond.code yX4_mayGoOn cX4_mayGoOn 5 (some .boolean), Cond.instanceMethod yX1_groupSize, Cond.selects RX1 yX1_groupSize yX1_groupSize, Cond.code yX1_groupSize cX1_groupSize 3 (some .int), Cond.instanceMethod yX1_prepareFrom, Cond.selects RX1 yX1_prepareFrom yX1_prepareFrom]
def wsL_law0_r15 : List Cond := [Cond.code yX1_prepareFrom cX1_prepareFrom 3 none, Cond.methodLink RX1 43 yX1_groupSize, Cond.methodLink RX1 47 yX1_leastOfGroup, Cond.instanceMethod yX1_leastOfGroup, Cond.selects RX1 yX1_leastOfGroup yX1_leastOfGroup, Cond.code yX1_leastOfGroup cX1_leastOfGroup 2 (some .int), Cond.instanceMethod yX2_followedBy, Cond.selects RX2 yX2_followedBy yX2_followedBy, Cond.code yX2_followedBy cX2_followedBy 8 (some (.object "NoticeStations$Standing")), Cond.classLink RX2 8 RX2, Cond.methodLink RX2 33 yX2_length, Cond.methodLink RX2 37 yJ7_copyOf_59c91, Cond.static yJ7_copyOf_59c91, Cond.code yJ7_copyOf_59c91 cJ7_copyOf_59c91 3 (some (.array .int)), Cond.methodLink RJ7 316 ⟨"[I", "clone", "()Ljava/lang/Object;"⟩, Cond.sameMethod "[I" "java/lang/Object" "clone" "()Ljava/lang/Object;", Cond.native ⟨"java/lang/Object", "clone", "()Ljava/lang/Object;"⟩, Cond.instanceMethod ⟨"java/lang/Object", "clone", "()Ljava/lang/Object;"⟩, Cond.selects "[I" ⟨"[I", "clone", "()Ljava/lang/Object;"⟩ ⟨"java/lang/Object", "clone", "()Ljava/lang/Object;"⟩, Cond.classLink RJ7 317 "[I", Cond.methodLink RX2 43 yX2_init, Cond.methodLink RX4 135 yX4_commitIfAllPrepared, Cond.instanceMethod yX4_commitIfAllPrepared, Cond.selects RX4 yX4_commitIfAllPrepared yX4_commitIfAllPrepared]
def wsL_law0_r16 : List Cond := [Cond.code yX4_commitIfAllPrepared cX4_commitIfAllPrepared 4 none, Cond.instanceMethod yX1_awaited, Cond.selects RX1 yX1_awaited yX1_awaited, Cond.code yX1_awaited cX1_awaited 3 (some .int), Cond.methodLink RX1 40 yX1_awaits, Cond.instanceMethod yX3_forgetWrite, Cond.selects RX3 yX3_forgetWrite yX3_forgetWrite, Cond.code yX3_forgetWrite cX3_forgetWrite 1 none, Cond.methodLink RL 110 yX5_decide, Cond.instanceMethod yX5_decide, Cond.selects RX5 yX5_decide yX5_decide, Cond.code yX5_decide cX5_decide 5 (some .boolean), Cond.methodLink RX5 134 yX5_askGranted, Cond.instanceMethod yX5_askGranted, Cond.selects RX5 yX5_askGranted yX5_askGranted, Cond.code yX5_askGranted cX5_askGranted 3 none, Cond.methodLink RX5 138 yX5_mayGoOn, Cond.instanceMethod yX5_mayGoOn, Cond.selects RX5 yX5_mayGoOn yX5_mayGoOn, Cond.code yX5_mayGoOn cX5_mayGoOn 4 (some .boolean), Cond.methodLink RX5 130 yX5_greatest, Cond.instanceMethod yX5_greatest, Cond.selects RX5 yX5_greatest yX5_greatest, Cond.code yX5_greatest cX5_greatest 3 (some .int)]
def wsL_law0_r17 : List Cond := [Cond.methodLink RX5 142 yX5_many, Cond.static yX5_many, Cond.code yX5_many cX5_many 3 (some .int), Cond.methodLink RX5 146 yX5_longer, Cond.static yX5_longer, Cond.code yX5_longer cX5_longer 3 (some (.array .int)), Cond.methodLink RX5 150 yX5_finish, Cond.instanceMethod yX5_finish, Cond.selects RX5 yX5_finish yX5_finish, Cond.code yX5_finish cX5_finish 3 none, Cond.methodLink RL 111 yL_giveUp, Cond.static yL_giveUp, Cond.codeWith yL_giveUp cL_giveUp 3 (some .int) [(0, 5, 8, 13), (0, 5, 11, 21), (0, 5, 14, 23)], Cond.methodLink RL 35 yX4_giveUp, Cond.instanceMethod yX4_giveUp, Cond.selects RX4 yX4_giveUp yX4_giveUp, Cond.code yX4_giveUp cX4_giveUp 5 none, Cond.methodLink RX4 138 yX4_openWriteOf, Cond.instanceMethod yX4_openWriteOf, Cond.selects RX4 yX4_openWriteOf yX4_openWriteOf, Cond.code yX4_openWriteOf cX4_openWriteOf 3 (some (.object "NoticeStations$OpenWrite")), Cond.methodLink RL 114 yX5_giveUp, Cond.instanceMethod yX5_giveUp, Cond.selects RX5 yX5_giveUp yX5_giveUp]
def wsL_law0_r18 : List Cond := [Cond.code yX5_giveUp cX5_giveUp 2 none, Cond.methodLink RL 115 yL_resend, Cond.static yL_resend, Cond.codeWith yL_resend cL_resend 4 (some .int) [(0, 9, 12, 13), (0, 9, 15, 21), (0, 9, 18, 23)], Cond.methodLink RL 39 yX4_resend, Cond.instanceMethod yX4_resend, Cond.selects RX4 yX4_resend yX4_resend, Cond.code yX4_resend cX4_resend 5 (some .int), Cond.methodLink RL 117 yX5_resend, Cond.instanceMethod yX5_resend, Cond.selects RX5 yX5_resend yX5_resend, Cond.code yX5_resend cX5_resend 3 (some .int), Cond.methodLink RL 118 yL_unlock, Cond.static yL_unlock, Cond.codeWith yL_unlock cL_unlock 3 (some .int) [(0, 5, 8, 13), (0, 5, 11, 21)], Cond.methodLink RL 43 yX4_unlock, Cond.instanceMethod yX4_unlock, Cond.selects RX4 yX4_unlock yX4_unlock, Cond.code yX4_unlock cX4_unlock 3 none, Cond.methodLink RL 120 yX5_unlock, Cond.instanceMethod yX5_unlock, Cond.selects RX5 yX5_unlock yX5_unlock, Cond.code yX5_unlock cX5_unlock 2 none, Cond.methodLink RL 121 yL_ask]
def wsL_law0_r19 : List Cond := [Cond.static yL_ask, Cond.codeWith yL_ask cL_ask 4 (some .int) [(0, 6, 9, 13), (0, 6, 12, 21), (0, 6, 15, 23)], Cond.methodLink RL 46 yX4_ask, Cond.instanceMethod yX4_ask, Cond.selects RX4 yX4_ask yX4_ask, Cond.code yX4_ask cX4_ask 4 none, Cond.methodLink RL 124 yX5_ask, Cond.instanceMethod yX5_ask, Cond.selects RX5 yX5_ask yX5_ask, Cond.code yX5_ask cX5_ask 3 none, Cond.methodLink RL 125 yL_stop, Cond.static yL_stop, Cond.codeWith yL_stop cL_stop 4 (some .int) [(0, 16, 19, 13)], Cond.methodLink RL 50 yX4_stop, Cond.instanceMethod yX4_stop, Cond.selects RX4 yX4_stop yX4_stop, Cond.code yX4_stop cX4_stop 4 (some .boolean), Cond.methodLink RL 127 yX5_stop, Cond.instanceMethod yX5_stop, Cond.selects RX5 yX5_stop yX5_stop, Cond.code yX5_stop cX5_stop 2 (some .boolean), Cond.methodLink RL 128 yL_start, Cond.static yL_start, Cond.codeWith yL_start cL_start 4 (some .int) [(0, 16, 19, 13)]]
def wsL_law0_r20 : List Cond := [Cond.methodLink RL 53 yX4_start, Cond.instanceMethod yX4_start, Cond.selects RX4 yX4_start yX4_start, Cond.code yX4_start cX4_start 4 (some .boolean), Cond.methodLink RL 130 yX5_start, Cond.instanceMethod yX5_start, Cond.selects RX5 yX5_start yX5_start, Cond.code yX5_start cX5_start 2 (some .boolean), Cond.methodLink RL 131 yX4_letters, Cond.instanceMethod yX4_letters, Cond.selects RX4 yX4_letters yX4_letters, Cond.code yX4_letters cX4_letters 1 (some .int), Cond.methodLink RL 134 yX5_letters, Cond.instanceMethod yX5_letters, Cond.selects RX5 yX5_letters yX5_letters, Cond.code yX5_letters cX5_letters 1 (some .int), Cond.methodLink RL 135 yL_deliver, Cond.static yL_deliver, Cond.codeWith yL_deliver cL_deliver 4 (some .int) [(0, 9, 12, 13), (0, 9, 15, 21), (0, 9, 18, 23)], Cond.methodLink RL 56 yX4_deliver, Cond.instanceMethod yX4_deliver, Cond.selects RX4 yX4_deliver yX4_deliver, Cond.code yX4_deliver cX4_deliver 4 (some .int), Cond.methodLink RX4 178 yX4_letterAt]
def wsL_law0_r21 : List Cond := [Cond.instanceMethod yX4_letterAt, Cond.selects RX4 yX4_letterAt yX4_letterAt, Cond.code yX4_letterAt cX4_letterAt 2 (some (.object "NoticeStations$Letter")), Cond.classLink RX4 183 "NoticeStations$Letter", Cond.methodLink RX4 210 yX4_requireLetter, Cond.instanceMethod yX4_requireLetter, Cond.selects RX4 yX4_requireLetter yX4_requireLetter, Cond.code yX4_requireLetter cX4_requireLetter 2 none, Cond.methodLink RX4 256 yJx4a65c_get_915e3, Cond.instanceMethod yJx4a65c_get_915e3, Cond.selects RJx4a65c yJx4a65c_get_915e3 yJx4a65c_get_915e3, Cond.code yJx4a65c_get_915e3 cJx4a65c_get_915e3 2 (some (.object "java/lang/Object")), Cond.methodLink RJx4a65c 118 yJ15_checkIndex_7cf53, Cond.static yJ15_checkIndex_7cf53, Cond.initialized RJ15, Cond.code yJ15_checkIndex_7cf53 cJ15_checkIndex_7cf53 2 (some .int), Cond.methodLink RJ15 105 yJ3_checkIndex_8e157, Cond.static yJ3_checkIndex_8e157, Cond.initialized RJ3, Cond.code yJ3_checkIndex_8e157 cJ3_checkIndex_8e157 3 (some .int), Cond.methodLink RJx4a65c 123 yJx4a65c_elementData_915e3, Cond.instanceMethod yJx4a65c_elementData_915e3, Cond.selects RJx4a65c yJx4a65c_elementData_915e3 yJx4a65c_elementData_915e3, Cond.code yJx4a65c_elementData_915e3 cJx4a65c_elementData_915e3 2 (some (.object "java/lang/Object"))]
def wsL_law0_r22 : List Cond := [Cond.methodLink RX4 190 yX4_areInOnePiece, Cond.instanceMethod yX4_areInOnePiece, Cond.selects RX4 yX4_areInOnePiece yX4_areInOnePiece, Cond.code yX4_areInOnePiece cX4_areInOnePiece 6 (some .boolean), Cond.methodLink RX4 195 yX4_answersTo, Cond.static yX4_answersTo, Cond.code yX4_answersTo cX4_answersTo 3 (some .int), Cond.methodLink RX4 280 yX4_openWriteFor, Cond.static yX4_openWriteFor, Cond.code yX4_openWriteFor cX4_openWriteFor 3 (some (.object "NoticeStations$OpenWrite")), Cond.methodLink RX4 199 yJx4a65c_remove_915e3, Cond.instanceMethod yJx4a65c_remove_915e3, Cond.selects RJx4a65c yJx4a65c_remove_915e3 yJx4a65c_remove_915e3, Cond.code yJx4a65c_remove_915e3 cJx4a65c_remove_915e3 4 (some (.object "java/lang/Object")), Cond.methodLink RJx4a65c 144 yJx4a65c_fastRemove_b59b0, Cond.instanceMethod yJx4a65c_fastRemove_b59b0, Cond.selects RJx4a65c yJx4a65c_fastRemove_b59b0 yJx4a65c_fastRemove_b59b0, Cond.code yJx4a65c_fastRemove_b59b0 cJx4a65c_fastRemove_b59b0 4 none, Cond.methodLink RJx4a65c 112 arraycopyName, Cond.methodLink RX4 203 yX4_take, Cond.instanceMethod yX4_take, Cond.selects RX4 yX4_take yX4_take, Cond.code yX4_take cX4_take 3 none, Cond.methodLink RX4 284 yX4_takeLock]
def wsL_law0_r23 : List Cond := [Cond.instanceMethod yX4_takeLock, Cond.selects RX4 yX4_takeLock yX4_takeLock, Cond.code yX4_takeLock cX4_takeLock 3 none, Cond.methodLink RX4 305 yX4_sendBack, Cond.instanceMethod yX4_sendBack, Cond.selects RX4 yX4_sendBack yX4_sendBack, Cond.code yX4_sendBack cX4_sendBack 4 none, Cond.methodLink RX4 287 yX4_takeGrant, Cond.instanceMethod yX4_takeGrant, Cond.selects RX4 yX4_takeGrant yX4_takeGrant, Cond.code yX4_takeGrant cX4_takeGrant 4 none, Cond.methodLink RX4 290 yX4_takePrepare, Cond.instanceMethod yX4_takePrepare, Cond.selects RX4 yX4_takePrepare yX4_takePrepare, Cond.code yX4_takePrepare cX4_takePrepare 3 none, Cond.instanceMethod yX0_goesOnFrom, Cond.selects RX0 yX0_goesOnFrom yX0_goesOnFrom, Cond.code yX0_goesOnFrom cX0_goesOnFrom 2 (some .boolean), Cond.instanceMethod yX2_goesOnFrom, Cond.selects RX2 yX2_goesOnFrom yX2_goesOnFrom, Cond.code yX2_goesOnFrom cX2_goesOnFrom 3 (some .boolean), Cond.instanceMethod yX3_isPreparedFor, Cond.selects RX3 yX3_isPreparedFor yX3_isPreparedFor, Cond.code yX3_isPreparedFor cX3_isPreparedFor 2 (some .boolean)]
def wsL_law0_r24 : List Cond := [Cond.methodLink RX4 293 yX4_takePrepared, Cond.instanceMethod yX4_takePrepared, Cond.selects RX4 yX4_takePrepared yX4_takePrepared, Cond.code yX4_takePrepared cX4_takePrepared 4 none, Cond.methodLink RX4 296 yX4_takeCommit, Cond.instanceMethod yX4_takeCommit, Cond.selects RX4 yX4_takeCommit yX4_takeCommit, Cond.code yX4_takeCommit cX4_takeCommit 3 none, Cond.instanceMethod yX3_endDoubt, Cond.selects RX3 yX3_endDoubt yX3_endDoubt, Cond.code yX3_endDoubt cX3_endDoubt 1 none, Cond.methodLink RX4 299 yX4_takeAbort, Cond.instanceMethod yX4_takeAbort, Cond.selects RX4 yX4_takeAbort yX4_takeAbort, Cond.code yX4_takeAbort cX4_takeAbort 3 none, Cond.methodLink RX4 302 yX4_takeAsk, Cond.instanceMethod yX4_takeAsk, Cond.selects RX4 yX4_takeAsk yX4_takeAsk, Cond.code yX4_takeAsk cX4_takeAsk 3 none, Cond.instanceMethod yX2_hasNumber, Cond.selects RX2 yX2_hasNumber yX2_hasNumber, Cond.code yX2_hasNumber cX2_hasNumber 3 (some .boolean), Cond.instanceMethod yX3_hasEndedWrite, Cond.selects RX3 yX3_hasEndedWrite yX3_hasEndedWrite]
def wsL_law0_r25 : List Cond := [Cond.code yX3_hasEndedWrite cX3_hasEndedWrite 2 (some .boolean), Cond.instanceMethod yX0_bookLength, Cond.selects RX0 yX0_bookLength yX0_bookLength, Cond.code yX0_bookLength cX0_bookLength 1 (some .int), Cond.methodLink RL 137 yX5_deliver, Cond.instanceMethod yX5_deliver, Cond.selects RX5 yX5_deliver yX5_deliver, Cond.code yX5_deliver cX5_deliver 8 (some .int), Cond.methodLink RX5 164 yX5_isLetter, Cond.instanceMethod yX5_isLetter, Cond.selects RX5 yX5_isLetter yX5_isLetter, Cond.code yX5_isLetter cX5_isLetter 2 (some .boolean), Cond.methodLink RX5 167 yX5_isJoined, Cond.instanceMethod yX5_isJoined, Cond.selects RX5 yX5_isJoined yX5_isJoined, Cond.code yX5_isJoined cX5_isJoined 6 (some .boolean), Cond.methodLink RX5 170 yX5_counts, Cond.instanceMethod yX5_counts, Cond.selects RX5 yX5_counts yX5_counts, Cond.code yX5_counts cX5_counts 3 (some .boolean), Cond.methodLink RX5 173 yX5_remove, Cond.instanceMethod yX5_remove, Cond.selects RX5 yX5_remove yX5_remove, Cond.code yX5_remove cX5_remove 3 none]
def wsL_law0_r26 : List Cond := [Cond.methodLink RX5 176 yX5_work, Cond.instanceMethod yX5_work, Cond.selects RX5 yX5_work yX5_work, Cond.code yX5_work cX5_work 6 none, Cond.methodLink RX5 153 yX5_answer, Cond.instanceMethod yX5_answer, Cond.selects RX5 yX5_answer yX5_answer, Cond.code yX5_answer cX5_answer 5 none, Cond.methodLink RX5 161 yX5_contains, Cond.instanceMethod yX5_contains, Cond.selects RX5 yX5_contains yX5_contains, Cond.code yX5_contains cX5_contains 4 (some .boolean), Cond.methodLink RX5 157 yX5_end, Cond.instanceMethod yX5_end, Cond.selects RX5 yX5_end yX5_end, Cond.code yX5_end cX5_end 4 none, Cond.methodLink RL 138 yL_lose, Cond.static yL_lose, Cond.codeWith yL_lose cL_lose 3 (some .int) [(0, 5, 8, 13)], Cond.methodLink RL 59 yX4_lose, Cond.instanceMethod yX4_lose, Cond.selects RX4 yX4_lose yX4_lose, Cond.code yX4_lose cX4_lose 2 none, Cond.methodLink RL 140 yX5_lose]
def wsL_law0_r27 : List Cond := [Cond.instanceMethod yX5_lose, Cond.selects RX5 yX5_lose yX5_lose, Cond.code yX5_lose cX5_lose 2 none, Cond.methodLink RL 141 yL_twin, Cond.static yL_twin, Cond.codeWith yL_twin cL_twin 3 (some .int) [(0, 5, 8, 13), (0, 5, 11, 23)], Cond.methodLink RL 62 yX4_twin, Cond.instanceMethod yX4_twin, Cond.selects RX4 yX4_twin yX4_twin, Cond.code yX4_twin cX4_twin 3 none, Cond.methodLink RL 143 yX5_twin, Cond.instanceMethod yX5_twin, Cond.selects RX5 yX5_twin yX5_twin, Cond.code yX5_twin cX5_twin 2 none, Cond.methodLink RL 144 yL_letter, Cond.static yL_letter, Cond.codeWith yL_letter cL_letter 5 (some .int) [(0, 10, 13, 13), (0, 10, 17, 19)], Cond.methodLink RL 65 yX4_letter, Cond.instanceMethod yX4_letter, Cond.selects RX4 yX4_letter yX4_letter, Cond.code yX4_letter cX4_letter 4 (some .int), Cond.methodLink RL 146 yX5_letter, Cond.instanceMethod yX5_letter, Cond.selects RX5 yX5_letter yX5_letter]
def wsL_law0_r28 : List Cond := [Cond.code yX5_letter cX5_letter 3 (some .int), Cond.methodLink RL 147 yL_count, Cond.static yL_count, Cond.codeWith yL_count cL_count 4 (some .int) [(0, 9, 12, 13)], Cond.methodLink RL 68 yX4_count, Cond.instanceMethod yX4_count, Cond.selects RX4 yX4_count yX4_count, Cond.code yX4_count cX4_count 2 (some .int), Cond.methodLink RL 149 yX5_count, Cond.instanceMethod yX5_count, Cond.selects RX5 yX5_count yX5_count, Cond.code yX5_count cX5_count 2 (some .int), Cond.methodLink RL 150 yL_entry, Cond.static yL_entry, Cond.codeWith yL_entry cL_entry 6 (some .int) [(0, 12, 15, 13), (0, 12, 19, 29)], Cond.methodLink RL 71 yX4_entry, Cond.instanceMethod yX4_entry, Cond.selects RX4 yX4_entry yX4_entry, Cond.code yX4_entry cX4_entry 5 (some .int), Cond.methodLink RL 152 yX5_entry, Cond.instanceMethod yX5_entry, Cond.selects RX5 yX5_entry yX5_entry, Cond.code yX5_entry cX5_entry 5 (some .int), Cond.methodLink RL 153 yL_about]
def wsL_law0_r29 : List Cond := [Cond.static yL_about, Cond.codeWith yL_about cL_about 5 (some .int) [(0, 10, 13, 13), (0, 10, 17, 19)], Cond.methodLink RL 75 yX4_about, Cond.instanceMethod yX4_about, Cond.selects RX4 yX4_about yX4_about, Cond.code yX4_about cX4_about 4 (some .int), Cond.methodLink RL 155 yX5_about, Cond.instanceMethod yX5_about, Cond.selects RX5 yX5_about yX5_about, Cond.code yX5_about cX5_about 3 (some .int), Cond.methodLink RL 156 yL_allowed, Cond.static yL_allowed, Cond.codeWith yL_allowed cL_allowed 4 (some .int) [(0, 16, 19, 19)], Cond.methodLink RL 78 yX4_allowed, Cond.instanceMethod yX4_allowed, Cond.selects RX4 yX4_allowed yX4_allowed, Cond.code yX4_allowed cX4_allowed 4 (some .boolean), Cond.methodLink RL 158 yX5_allowed, Cond.instanceMethod yX5_allowed, Cond.selects RX5 yX5_allowed yX5_allowed, Cond.code yX5_allowed cX5_allowed 4 (some .boolean), Cond.methodLink RL 159 yL_inForce, Cond.static yL_inForce, Cond.codeWith yL_inForce cL_inForce 6 (some .int) [(0, 12, 15, 13)]]
def wsL_law0_r30 : List Cond := [Cond.methodLink RL 81 yX4_inForce, Cond.instanceMethod yX4_inForce, Cond.selects RX4 yX4_inForce yX4_inForce, Cond.code yX4_inForce cX4_inForce 7 (some .int), Cond.methodLink RX4 243 yX4_isOn, Cond.static yX4_isOn, Cond.code yX4_isOn cX4_isOn 5 (some .boolean), Cond.methodLink RL 162 yX5_inForce, Cond.instanceMethod yX5_inForce, Cond.selects RX5 yX5_inForce yX5_inForce, Cond.code yX5_inForce cX5_inForce 7 (some .int)]
def wsL_law0 : List Cond := (wsL_law0_r1 ++ (wsL_law0_r2 ++ (wsL_law0_r3 ++ (wsL_law0_r4 ++ (wsL_law0_r5 ++ (wsL_law0_r6 ++ (wsL_law0_r7 ++ (wsL_law0_r8 ++ (wsL_law0_r9 ++ (wsL_law0_r10 ++ (wsL_law0_r11 ++ (wsL_law0_r12 ++ (wsL_law0_r13 ++ (wsL_law0_r14 ++ (wsL_law0_r15 ++ (wsL_law0_r16 ++ (wsL_law0_r17 ++ (wsL_law0_r18 ++ (wsL_law0_r19 ++ (wsL_law0_r20 ++ (wsL_law0_r21 ++ (wsL_law0_r22 ++ (wsL_law0_r23 ++ (wsL_law0_r24 ++ (wsL_law0_r25 ++ (wsL_law0_r26 ++ (wsL_law0_r27 ++ (wsL_law0_r28 ++ (wsL_law0_r29 ++ wsL_law0_r30))))))))))))))))))))))))))))) ++ wsX40 ++ wsX50 ++ wsJx4a65c0 ++ wsX20 ++ wsX30 ++ wsX10 ++ wsX00 ++ ([] : List Cond)
def wsL_law : List Cond := wsL_law0 ++ (vx_atS RX4 251 "java/lang/IndexOutOfBoundsException" ["java/lang/RuntimeException", "java/lang/Exception"]).filter goodWord ++ (vx_atS RX4 54 "java/lang/IllegalArgumentException" ["java/lang/RuntimeException", "java/lang/Exception"]).filter goodWord ++ (vx_atS RX4 95 "java/lang/IllegalStateException" ["java/lang/RuntimeException", "java/lang/Exception"]).filter goodWord ++ (vx_atS RX4 115 "java/lang/UnsupportedOperationException" ["java/lang/RuntimeException", "java/lang/Exception"]).filter goodWord ++ (vx_atS RX4 76 "java/util/NoSuchElementException" ["java/lang/RuntimeException", "java/lang/Exception"]).filter goodWord
end
section
/-! The words that every contract here is said in. -/
abbrev tY (tC : Nat → ClassId) : List (ClassId × FieldType) := [(tC 0, .int), (tC 1, .boolean), (tC 2, .object "NoticeStations$Standing"), (tC 3, .object "NoticeStations$Station"), (tC 4, .object "java/lang/Object"), (tC 5, .long)]
abbrev wI (tC : Nat → ClassId) (n : Nat) (f : Nat → Int32) : va_E := .inl (tC 0, n, .inl f)
abbrev wZ (tC : Nat → ClassId) (n : Nat) (f : Nat → Int32) : va_E := .inl (tC 1, n, .inl f)
abbrev wS (tC : Nat → ClassId) (n : Nat) (f : Nat → Option Nat) : va_E := .inl (tC 2, n, .inr (.inr (.inr (.inr f))))
abbrev wT (tC : Nat → ClassId) (n : Nat) (f : Nat → Option Nat) : va_E := .inl (tC 3, n, .inr (.inr (.inr (.inr f))))
abbrev wO (tC : Nat → ClassId) (n : Nat) (f : Nat → Option Nat) : va_E := .inl (tC 4, n, .inr (.inr (.inr (.inr f))))
abbrev wL (tC : Nat → ClassId) (n : Nat) (f : Nat → Int64) : va_E := .inl (tC 5, n, .inr (.inl f))
def eW : List Cond := [.fieldLinkNest "NoticeStations" 225 "NoticeStations$Standing" "entries" "[I" "NoticeStations", .fieldLinkNest "NoticeStations" 222 "NoticeStations$Standing" "numbers" "[I" "NoticeStations", .fieldLinkNest "NoticeStations" 228 "NoticeStations$Standing" "size" "I" "NoticeStations", .fieldLinkNest "NoticeStations" 230 "NoticeStations$Standing" "named" "I" "NoticeStations", .fieldLinkNest "NoticeStations" 123 "NoticeStations$Station" "own" "I" "NoticeStations", .fieldLinkNest "NoticeStations" 160 "NoticeStations$Station" "up" "Z" "NoticeStations", .fieldLinkNest "NoticeStations" 61 "NoticeStations$Station" "stored" "LNoticeStations$Standing;" "NoticeStations", .fieldLinkNest "NoticeStations" 233 "NoticeStations$Station" "began" "I" "NoticeStations", .fieldLinkNest "NoticeStations" 169 "NoticeStations$Station" "preparedNumber" "I" "NoticeStations", .fieldLinkNest "NoticeStations" 172 "NoticeStations$Station" "preparedStanding" "LNoticeStations$Standing;" "NoticeStations", .fieldLinkNest "NoticeStations" 155 "NoticeStations$Station" "lock" "I" "NoticeStations", .fieldLinkNest "NoticeStations" 81 "NoticeStations$Station" "open" "LNoticeStations$OpenWrite;" "NoticeStations", .fieldLinkNest "NoticeStations" 145 "NoticeStations$OpenWrite" "number" "I" "NoticeStations", .fieldLinkNest "NoticeStations$Station" 43 "NoticeStations$OpenWrite" "number" "I" "NoticeStations", .fieldLinkNest "NoticeStations" 96 "NoticeStations$OpenWrite" "granted" "[LNoticeStations$Standing;" "NoticeStations", .fieldLinkNest "NoticeStations" 319 "NoticeStations$OpenWrite" "prepared" "[Z" "NoticeStations", .fieldLinkNest "NoticeStations" 274 "NoticeStations$OpenWrite" "next" "LNoticeStations$Standing;" "NoticeStations", .fieldLinkNest "NoticeStations" 207 "NoticeStations$Letter" "kind" "I" "NoticeStations", .fieldLinkNest "NoticeStations" 187 "NoticeStations$Letter" "from" "I" "NoticeStations", .fieldLinkNest "NoticeStations" 182 "NoticeStations$Letter" "to" "I" "NoticeStations", .fieldLinkNest "NoticeStations" 217 "NoticeStations$Letter" "number" "I" "NoticeStations", .fieldLinkNest "NoticeStations" 309 "NoticeStations$Letter" "standing" "LNoticeStations$Standing;" "NoticeStations", .methodLinkNest "NoticeStations" 32 ⟨"NoticeStations$Standing", "<init>", "([I[III)V"⟩ "NoticeStations", .methodLinkNest "NoticeStations" 35 ⟨"NoticeStations$Station", "<init>", "(ILNoticeStations$Standing;)V"⟩ "NoticeStations", .methodLinkNest "NoticeStations" 240 ⟨"NoticeStations$Station", "isFree", "()Z"⟩ "NoticeStations", .methodLinkNest "NoticeStations" 107 ⟨"NoticeStations$Standing", "length", "()I"⟩ "NoticeStations", .methodLinkNest "NoticeStations" 269 ⟨"NoticeStations$OpenWrite", "<init>", "(II)V"⟩ "NoticeStations", .methodLinkNest "NoticeStations" 271 ⟨"NoticeStations$OpenWrite", "awaits", "(I)Z"⟩ "NoticeStations", .methodLinkNest "NoticeStations" 85 ⟨"NoticeStations$OpenWrite", "isCollecting", "()Z"⟩ "NoticeStations", .methodLinkNest "NoticeStations" 263 ⟨"NoticeStations$Letter", "<init>", "(IIIILNoticeStations$Standing;)V"⟩ "NoticeStations", .methodLinkNest "NoticeStations" 65 ⟨"NoticeStations$Standing", "hasNoticeAt", "(I)Z"⟩ "NoticeStations", .methodLinkNest "NoticeStations$Standing" 23 ⟨"NoticeStations", "isBelow", "(II)Z"⟩ "NoticeStations", .methodLinkNest "NoticeStations" 69 ⟨"NoticeStations$Standing", "isWithdrawn", "(I)Z"⟩ "NoticeStations", .methodLinkNest "NoticeStations$Standing" 29 ⟨"NoticeStations", "withdrawalOf", "(I)I"⟩ "NoticeStations", .methodLinkNest "NoticeStations" 116 ⟨"NoticeStations$OpenWrite", "groupSize", "()I"⟩ "NoticeStations", .methodLinkNest "NoticeStations" 127 ⟨"NoticeStations$OpenWrite", "prepareFrom", "(LNoticeStations$Standing;I)V"⟩ "NoticeStations", .methodLinkNest "NoticeStations$OpenWrite" 50 ⟨"NoticeStations$Standing", "followedBy", "(IIII)LNoticeStations$Standing;"⟩ "NoticeStations", .methodLinkNest "NoticeStations" 152 ⟨"NoticeStations$OpenWrite", "awaited", "()I"⟩ "NoticeStations", .methodLinkNest "NoticeStations" 142 ⟨"NoticeStations$Station", "forgetWrite", "()V"⟩ "NoticeStations", .methodLinkNest "NoticeStations" 277 ⟨"NoticeStations$OpenWrite", "isOfGroup", "(I)Z"⟩ "NoticeStations", .methodLinkNest "NoticeStations" 164 ⟨"NoticeStations$Station", "isInDoubt", "()Z"⟩ "NoticeStations", .methodLinkNest "NoticeStations" 312 ⟨"NoticeStations$Letter", "goesOnFrom", "(LNoticeStations$Standing;)Z"⟩ "NoticeStations", .methodLinkNest "NoticeStations$Letter" 26 ⟨"NoticeStations$Standing", "goesOnFrom", "(LNoticeStations$Standing;)Z"⟩ "NoticeStations", .methodLinkNest "NoticeStations" 316 ⟨"NoticeStations$Station", "isPreparedFor", "(I)Z"⟩ "NoticeStations", .methodLinkNest "NoticeStations" 323 ⟨"NoticeStations$Station", "endDoubt", "()V"⟩ "NoticeStations", .methodLinkNest "NoticeStations" 326 ⟨"NoticeStations$Standing", "hasNumber", "(I)Z"⟩ "NoticeStations", .methodLinkNest "NoticeStations" 329 ⟨"NoticeStations$Station", "hasEndedWrite", "(I)Z"⟩ "NoticeStations", .methodLinkNest "NoticeStations" 332 ⟨"NoticeStations$Letter", "bookLength", "()I"⟩ "NoticeStations", .methodLinkNest "NoticeStations$Letter" 32 ⟨"NoticeStations$Standing", "length", "()I"⟩ "NoticeStations"]
def eWok : Cond → Bool
  | .fieldLinkNest .. => true
  | .methodLinkNest .. => true
  | _ => false
theorem eW_ok : ∀ w ∈ eW, eWok w = true := by decide +kernel
def eSt : List (Nat × String) := [(252, "no two such stations"), (249, "no such station"), (52, "no such notice"), (265, "stopped, locked or in doubt"), (267, "the book is full"), (261, "too many letters"), (74, "no notice to withdraw at this place"), (93, "no open write that collects"), (113, "the new book would be too long"), (259, "no open write"), (158, "no lock, or one of an open write of its own"), (167, "stopped, or not in doubt"), (254, "no such letter"), (193, "the letter cannot reach its receiver"), (218, "no such part of a letter"), (220, "no entry at this place"), (236, "no such thing about a station"), (238, "no such set of stations")]
def eX : List String := ["java/lang/IndexOutOfBoundsException", "java/lang/IllegalArgumentException", "java/lang/IllegalStateException", "java/lang/UnsupportedOperationException", "java/util/NoSuchElementException"]
def eNc : List (String × String) := [("java/lang/IndexOutOfBoundsException", "java/lang/IllegalArgumentException"), ("java/lang/IndexOutOfBoundsException", "java/lang/IllegalStateException"), ("java/lang/IndexOutOfBoundsException", "java/lang/UnsupportedOperationException"), ("java/lang/IndexOutOfBoundsException", "java/util/NoSuchElementException"), ("java/lang/IllegalArgumentException", "java/lang/IndexOutOfBoundsException"), ("java/lang/IllegalArgumentException", "java/lang/IllegalStateException"), ("java/lang/IllegalArgumentException", "java/lang/UnsupportedOperationException"), ("java/lang/IllegalArgumentException", "java/util/NoSuchElementException"), ("java/lang/IllegalStateException", "java/lang/IndexOutOfBoundsException"), ("java/lang/IllegalStateException", "java/lang/IllegalArgumentException"), ("java/lang/IllegalStateException", "java/lang/UnsupportedOperationException"), ("java/lang/IllegalStateException", "java/util/NoSuchElementException"), ("java/lang/UnsupportedOperationException", "java/lang/IndexOutOfBoundsException"), ("java/lang/UnsupportedOperationException", "java/lang/IllegalArgumentException"), ("java/lang/UnsupportedOperationException", "java/lang/IllegalStateException"), ("java/lang/UnsupportedOperationException", "java/util/NoSuchElementException"), ("java/util/NoSuchElementException", "java/lang/IndexOutOfBoundsException"), ("java/util/NoSuchElementException", "java/lang/IllegalArgumentException"), ("java/util/NoSuchElementException", "java/lang/IllegalStateException"), ("java/util/NoSuchElementException", "java/lang/UnsupportedOperationException")]
def eCa : List (String × String) := [("java/lang/IndexOutOfBoundsException", "java/lang/IndexOutOfBoundsException"), ("java/lang/IllegalArgumentException", "java/lang/IllegalArgumentException"), ("java/lang/IllegalStateException", "java/lang/IllegalStateException"), ("java/lang/UnsupportedOperationException", "java/lang/UnsupportedOperationException"), ("java/util/NoSuchElementException", "java/util/NoSuchElementException"), ("NoticeStations$Letter", "java/lang/Object")]
def eAO : List String := ["NoticeStations$Station", "NoticeStations$Standing", "java/lang/Object"]
def eDc : List MethodName := [⟨"java/lang/RuntimeException", "<init>", "(Ljava/lang/String;)V"⟩, ⟨"java/lang/Exception", "<init>", "(Ljava/lang/String;)V"⟩, ⟨"java/lang/Throwable", "<init>", "(Ljava/lang/String;)V"⟩]
def eN (U : State) : Prop := (∀ w ∈ eW, va_Nw w U) ∧ (∀ q ∈ eSt, ∃ a : Nat, vk_R RX4 q.1 q.2 a U) ∧ (∀ q ∈ eNc, va_Nc q.1 q.2 U) ∧ (∀ C ∈ eAO, va_AO C U) ∧ (∀ q ∈ eCa, va_Nw (.castable q.1 q.2) U) ∧ (∀ x ∈ eDc, va_Nw (.declares x) U)
theorem eW_warm {w : Cond} {s U : State} (hW : s.WarmedH U.vm) (hk : eWok w = true) (h : va_Nw w s) : va_Nw w U := by
  cases w <;> first | exact va_Nw.warmF hW h | exact va_Nw.warmM hW h | cases hk
theorem eN_warm {s U : State} (hW : s.WarmedH U.vm) (h : eN s) : eN U :=
  ⟨fun w hw => eW_warm hW (eW_ok w hw) (h.1 w hw), fun q hq => (h.2.1 q hq).imp (fun a ha => vk_R.warm hW ha), fun q hq => va_Nc.moved hW.alike (h.2.2.1 q hq), fun C hC => va_AO.moved hW.alike (h.2.2.2.1 C hC), fun q hq => va_Nw.warmC hW (h.2.2.2.2.1 q hq), fun x hx => va_Nw.warmD hW (h.2.2.2.2.2 x hx)⟩
def eH (dz : Nat) (A : Nat → Prop) (U : State) (H : Heap) : Prop := vx_Zq Bundle.tN "UNASSIGNED_STACK" Bundle.steD A U H ∧ vx_Zq Bundle.tN "SUPPRESSED_SENTINEL" Bundle.listD A U H ∧ va_Z "java/util/ArrayList" "DEFAULTCAPACITY_EMPTY_ELEMENTDATA" "[Ljava/lang/Object;" (.ref dz) A U H ∧ va_T (.object "java/lang/Object") dz 0 (fun _ => .null) A U H
theorem eH_moved {dz : Nat} {A : Nat → Prop} {u U : State} {H : Heap} (hvm : u.vm.Alike U.vm) (h : eH dz A u H) : eH dz A U H := ⟨vx_Zq.moved hvm h.1, vx_Zq.moved hvm h.2.1, va_Z.moved hvm h.2.2.1, va_T.moved hvm h.2.2.2⟩
theorem eH_kept {dz : Nat} {A : Nat → Prop} {U : State} {H H1 : Heap} (h : eH dz A U H) (hq : ∀ a : Nat, a < H.size → ¬ A a → H1[a]? = H[a]?) : eH dz A U H1 := ⟨vx_Zq.kept h.1 hq, vx_Zq.kept h.2.1 hq, va_Z.kept h.2.2.1 hq, va_T.kept h.2.2.2 hq⟩
theorem eH_narrow {dz : Nat} {A B : Nat → Prop} {U : State} {H : Heap} (h : eH dz A U H) (hAB : ∀ q, B q → A q) : eH dz B U H := ⟨vx_Zq.narrow h.1 hAB, vx_Zq.narrow h.2.1 hAB, va_Z.narrow h.2.2.1 hAB, va_T.narrow h.2.2.2 hAB⟩
/-- a contract's start: the world ws, and what lies outside it -/
def pB (D : va_G) (tC : Nat → ClassId) (dz : Nat) (ws : va_W) (sz : Nat) (U : State) : Prop := U.heap.size = sz ∧ va_P D vwCl ws U.heap ∧ va_K D vwCl (tY tC) U ∧ va_D (fun _ => True) ws ∧ eN U ∧ eH dz (va_A ws sz) U U.heap
/-- .. and its end -/
def pA (D : va_G) (tC : Nat → ClassId) (A : Nat → Prop) (ws : va_W) (t : State) : Prop := va_P D vwCl ws t.heap ∧ va_K D vwCl (tY tC) t ∧ va_D A ws
theorem pB_blind {D : va_G} {tC : Nat → ClassId} {dz : Nat} {ws : va_W} {sz : Nat} {av : List Value} : FrameBlind (va_Pc av (pB D tC dz ws sz)) := by
  intro a U g mk q
  obtain ⟨q0, q1, qP, qK, qD, qN, qE⟩ := q
  exact ⟨q0, q1, qP, va_K.moved (u := U) (U := U.calling g mk a) (Vm.Alike.refl U.vm) qK, qD, eN_warm (s := U) (U := U.calling g mk a) (State.WarmedH.refl U) qN, eH_moved (u := U) (U := U.calling g mk a) (Vm.Alike.refl U.vm) qE⟩
theorem pB_at {D : va_G} {tC : Nat → ClassId} {dz : Nat} {wc : va_W} {A : Nat → Prop} {s : State} {H : Heap} {locs : List Loc} {av : List Value} (hP : va_P D vwCl wc H) (hD : va_D A wc) (hK : va_K D vwCl (tY tC) s) (hN : eN s) (hE : eH dz A s s.heap) (hS : va_S A s.heap H locs) (hF : ∀ q, va_A wc H.size q → A q) (U : State) (hU : U.heap = H) (hW : s.WarmedH U.vm) : va_Pc av (pB D tC dz wc H.size) av.toArray U := by
  refine ⟨rfl, by rw [hU], by rw [hU]; exact hP, va_K.moved hW.alike hK, hD.weaken (fun _ _ _ _ => trivial), eN_warm hW hN, ?_⟩
  rw [hU]
  exact eH_narrow (eH_kept (eH_moved hW.alike hE) hS.2.1) hF
def xX (P : String → Prop) (A : Nat → Prop) : String → State → State → Prop := vx_X (S := Unit) (fun _ => True) (fun E _ _ => P E) A
theorem xF {A : Nat → Prop} {s t : State} {H : Heap} {locs : List Loc} (hS : va_S A s.heap H locs) (h1 : H.size ≤ t.heap.size) (h2 : ∀ q : Nat, q < H.size → t.heap[q]? = H[q]?) : va_F A s t := ⟨Nat.le_trans hS.1 h1, fun q hq hA => (h2 q (Nat.lt_of_lt_of_le hq hS.1)).trans (hS.2.1 q hq hA)⟩
/-- array types known before: the new array's is the same -/
theorem tY_same {D : va_G} {tC : Nat → ClassId} {s : State} {cA : ClassId} {ty : FieldType} {i : Nat} {cB : ClassId} (hK : va_K D vwCl (tY tC ++ [(cA, ty)]) s) (h : (tY tC)[i]? = some (cB, ty)) : cA = cB := by
  have h1 := (hK.2 i (cB, ty) (by rw [List.getElem?_append_left (List.getElem?_eq_some_iff.mp h).1]; exact h)).2
  have h2 := (hK.2 (tY tC).length (cA, ty) (by simp)).2
  cases ty with
  | object C =>
    obtain ⟨_, _, _, _, _, e1⟩ := h1
    obtain ⟨_, _, _, _, _, e2⟩ := h2
    exact Option.some.inj (e2.symm.trans e1)
  | _ => exact Option.some.inj ((show s.vm.findClass _ = some cA from h2).symm.trans (show s.vm.findClass _ = some cB from h1))

theorem at_IOOBE_ok : ∀ w ∈ Cond.classLink RX4 247 "java/lang/IndexOutOfBoundsException" :: Cond.initialized "java/lang/IndexOutOfBoundsException" :: vx_atS RX4 251 "java/lang/IndexOutOfBoundsException" ["java/lang/RuntimeException", "java/lang/Exception"], vx_ot w = true := by decide +kernel
theorem at_IOOBE_rest : ∀ w ∈ (vx_atS RX4 251 "java/lang/IndexOutOfBoundsException" ["java/lang/RuntimeException", "java/lang/Exception"]).filter (fun w => !goodWord w), w ∈ Cond.castable "java/lang/IndexOutOfBoundsException" "java/lang/IndexOutOfBoundsException" :: eDc.map Cond.declares := by decide +kernel
theorem at_IOOBE_hat {args : Array Value} {s : State} (hN : eN s) : ∀ w ∈ Cond.castable "java/lang/IndexOutOfBoundsException" "java/lang/IndexOutOfBoundsException" :: eDc.map Cond.declares, w.before args s = true := fun w hw => (List.mem_cons.mp hw).elim (fun e => by rw [e]; exact va_Nw.use rfl (hN.2.2.2.2.1 ("java/lang/IndexOutOfBoundsException", "java/lang/IndexOutOfBoundsException") (by decide +kernel))) (fun h => by obtain ⟨x, hx, e⟩ := List.mem_map.mp h; rw [← e]; exact va_Nw.use rfl (hN.2.2.2.2.2 x hx))
theorem at_IAE_ok : ∀ w ∈ Cond.classLink RX4 50 "java/lang/IllegalArgumentException" :: Cond.initialized "java/lang/IllegalArgumentException" :: vx_atS RX4 54 "java/lang/IllegalArgumentException" ["java/lang/RuntimeException", "java/lang/Exception"], vx_ot w = true := by decide +kernel
theorem at_IAE_rest : ∀ w ∈ (vx_atS RX4 54 "java/lang/IllegalArgumentException" ["java/lang/RuntimeException", "java/lang/Exception"]).filter (fun w => !goodWord w), w ∈ Cond.castable "java/lang/IllegalArgumentException" "java/lang/IllegalArgumentException" :: eDc.map Cond.declares := by decide +kernel
theorem at_IAE_hat {args : Array Value} {s : State} (hN : eN s) : ∀ w ∈ Cond.castable "java/lang/IllegalArgumentException" "java/lang/IllegalArgumentException" :: eDc.map Cond.declares, w.before args s = true := fun w hw => (List.mem_cons.mp hw).elim (fun e => by rw [e]; exact va_Nw.use rfl (hN.2.2.2.2.1 ("java/lang/IllegalArgumentException", "java/lang/IllegalArgumentException") (by decide +kernel))) (fun h => by obtain ⟨x, hx, e⟩ := List.mem_map.mp h; rw [← e]; exact va_Nw.use rfl (hN.2.2.2.2.2 x hx))
theorem at_ISE_ok : ∀ w ∈ Cond.classLink RX4 91 "java/lang/IllegalStateException" :: Cond.initialized "java/lang/IllegalStateException" :: vx_atS RX4 95 "java/lang/IllegalStateException" ["java/lang/RuntimeException", "java/lang/Exception"], vx_ot w = true := by decide +kernel
theorem at_ISE_rest : ∀ w ∈ (vx_atS RX4 95 "java/lang/IllegalStateException" ["java/lang/RuntimeException", "java/lang/Exception"]).filter (fun w => !goodWord w), w ∈ Cond.castable "java/lang/IllegalStateException" "java/lang/IllegalStateException" :: eDc.map Cond.declares := by decide +kernel
theorem at_ISE_hat {args : Array Value} {s : State} (hN : eN s) : ∀ w ∈ Cond.castable "java/lang/IllegalStateException" "java/lang/IllegalStateException" :: eDc.map Cond.declares, w.before args s = true := fun w hw => (List.mem_cons.mp hw).elim (fun e => by rw [e]; exact va_Nw.use rfl (hN.2.2.2.2.1 ("java/lang/IllegalStateException", "java/lang/IllegalStateException") (by decide +kernel))) (fun h => by obtain ⟨x, hx, e⟩ := List.mem_map.mp h; rw [← e]; exact va_Nw.use rfl (hN.2.2.2.2.2 x hx))
theorem at_UOE_ok : ∀ w ∈ Cond.classLink RX4 111 "java/lang/UnsupportedOperationException" :: Cond.initialized "java/lang/UnsupportedOperationException" :: vx_atS RX4 115 "java/lang/UnsupportedOperationException" ["java/lang/RuntimeException", "java/lang/Exception"], vx_ot w = true := by decide +kernel
theorem at_UOE_rest : ∀ w ∈ (vx_atS RX4 115 "java/lang/UnsupportedOperationException" ["java/lang/RuntimeException", "java/lang/Exception"]).filter (fun w => !goodWord w), w ∈ Cond.castable "java/lang/UnsupportedOperationException" "java/lang/UnsupportedOperationException" :: eDc.map Cond.declares := by decide +kernel
theorem at_UOE_hat {args : Array Value} {s : State} (hN : eN s) : ∀ w ∈ Cond.castable "java/lang/UnsupportedOperationException" "java/lang/UnsupportedOperationException" :: eDc.map Cond.declares, w.before args s = true := fun w hw => (List.mem_cons.mp hw).elim (fun e => by rw [e]; exact va_Nw.use rfl (hN.2.2.2.2.1 ("java/lang/UnsupportedOperationException", "java/lang/UnsupportedOperationException") (by decide +kernel))) (fun h => by obtain ⟨x, hx, e⟩ := List.mem_map.mp h; rw [← e]; exact va_Nw.use rfl (hN.2.2.2.2.2 x hx))
theorem at_NSEE_ok : ∀ w ∈ Cond.classLink RX4 72 "java/util/NoSuchElementException" :: Cond.initialized "java/util/NoSuchElementException" :: vx_atS RX4 76 "java/util/NoSuchElementException" ["java/lang/RuntimeException", "java/lang/Exception"], vx_ot w = true := by decide +kernel
theorem at_NSEE_rest : ∀ w ∈ (vx_atS RX4 76 "java/util/NoSuchElementException" ["java/lang/RuntimeException", "java/lang/Exception"]).filter (fun w => !goodWord w), w ∈ Cond.castable "java/util/NoSuchElementException" "java/util/NoSuchElementException" :: eDc.map Cond.declares := by decide +kernel
theorem at_NSEE_hat {args : Array Value} {s : State} (hN : eN s) : ∀ w ∈ Cond.castable "java/util/NoSuchElementException" "java/util/NoSuchElementException" :: eDc.map Cond.declares, w.before args s = true := fun w hw => (List.mem_cons.mp hw).elim (fun e => by rw [e]; exact va_Nw.use rfl (hN.2.2.2.2.1 ("java/util/NoSuchElementException", "java/util/NoSuchElementException") (by decide +kernel))) (fun h => by obtain ⟨x, hx, e⟩ := List.mem_map.mp h; rw [← e]; exact va_Nw.use rfl (hN.2.2.2.2.2 x hx))
end
section
theorem x_newI (cA : ClassId) (n : Nat) : vp_cell cA (n, .inl (fun _ => 0)) = arrV cA n (fun _ => defaultValue .int) := rfl
theorem x_newZ (cA : ClassId) (n : Nat) : vp_cell cA (n, .inl (fun _ => 0)) = arrV cA n (fun _ => defaultValue .boolean) := rfl
theorem x_newL (cA : ClassId) (n : Nat) : vp_cell cA (n, .inr (.inl (fun _ => 0))) = arrV cA n (fun _ => defaultValue .long) := rfl
section XN
variable {p : Program} {l : Launch} {e : Env} {R : Room} {s : State} {m : MethodId} {args : Array Value} {below : List Frame} {meth : Method} {c : Code} {H : Heap} {locs : List Loc} {cells slots : Nat} {Q : State → Prop}
variable {cc : ByteArray} {pc : Nat} {ls : Array Slot} {rest : List Value} {D : va_G} {tC : Nat → ClassId} {A : Nat → Prop} {ws : va_W} {H0 : Heap}
theorem x_newa (hexec : p.tables.exec = Jvm.exec) (hb : c.code = cc) {atype : ArrayType} {ty : FieldType} {a0 : vp_A} (harr : (Cond.arrayClass ty).before args s = true) (hty : newarray.typeOf atype = ty) (hK : va_K D vwCl (tY tC) s) (hP : va_P D vwCl ws H) (hD : va_D A ws) (hS : va_S A H0 H locs) (hA : ∀ q, H0.size ≤ q → A q)
    {i : Nat} {cB : ClassId} (hi : (tY tC)[i]? = some (cB, ty)) {n : Int32} {N' : Nat} (ha : ∀ cA : ClassId, vp_cell cA a0 = arrV cA N' (fun _ => defaultValue ty)) (hn : ¬ n < 0) (hN : n.toNatClampNeg = N') (hbytes : N' * componentBytes ty ≤ 536870912) (hcells : cells + 1 ≤ R.cells) (hslots : slots + N' ≤ R.slots) (hdg : decode cc pc = .ok (.newarray atype, 2))
    (kk : ∀ (q : Nat) (H1 : Heap), va_P D vwCl (ws ++ [(q, .inl (cB, a0))]) H1 → va_D A (ws ++ [(q, .inl (cB, a0))]) → va_S A H0 H1 locs →
      W p l e R s m args below meth c H1 locs (cells + 1) (slots + N') Q (F0 m (pc + 2) ls (.ref q :: rest))) : W p l e R s m args below meth c H locs cells slots Q (F0 m pc ls (.int n :: rest)) := by
  refine va_newa hexec hb (by rw [hty]; exact harr) hty hK hP hD hS hA ha hn hN hbytes hcells hslots hdg (fun q cA H1 hK1 hP1 hD1 hS1 => ?_)
  have e : cA = cB := tY_same hK1 hi
  subst e
  exact kk q H1 hP1 hD1 hS1
theorem x_newq (hexec : p.tables.exec = Jvm.exec) (hb : c.code = cc) {own C : String} {index : Nat} (hown : s.vm.findClass own = some m.cls) (hclink : (Cond.classLink own index C).before args s = true) (hover : va_AO C s) (hK : va_K D vwCl (tY tC) s) (hP : va_P D vwCl ws H) (hD : va_D A ws) (hS : va_S A H0 H locs) (hA : ∀ q, H0.size ≤ q → A q)
    {i : Nat} {cB : ClassId} (hi : (tY tC)[i]? = some (cB, .object C)) {n : Int32} {N' : Nat} (hn : ¬ n < 0) (hN : n.toNatClampNeg = N') (hbytes : N' * 4 ≤ 536870912) (hcells : cells + 1 ≤ R.cells) (hslots : slots + N' ≤ R.slots) (hdg : decode cc pc = .ok (.anewarray index, 3))
    (kk : ∀ (q : Nat) (H1 : Heap), va_P D vwCl (ws ++ [(q, .inl (cB, N', .inr (.inr (.inr (.inr (fun _ => none))))))]) H1 → va_D A (ws ++ [(q, .inl (cB, N', .inr (.inr (.inr (.inr (fun _ => none))))))]) → va_S A H0 H1 locs →
      W p l e R s m args below meth c H1 locs (cells + 1) (slots + N') Q (F0 m (pc + 3) ls (.ref q :: rest))) : W p l e R s m args below meth c H locs cells slots Q (F0 m pc ls (.int n :: rest)) := by
  refine va_newq hexec hb hown hclink hover hK hP hD hS hA hn hN hbytes hcells hslots hdg (fun q cA H1 hK1 hP1 hD1 hS1 => ?_)
  have e : cA = cB := tY_same hK1 hi
  subst e
  exact kk q H1 hP1 hD1 hS1
variable {mc ms : Nat} {free : Addr → Prop} {A0 A1 : Nat → Prop} {a : Array Value} {st0 : List Value}
theorem vx_callr {S SX : Type} {post : S → Prop} {px : SX → Prop} {B : S → Nat → State → Prop} {BX : String → SX → State → Prop} {AX : Nat → Prop} (hr : vx_Run p l e R s m args below meth c H locs cells slots mc ms (F0 m pc ls st0) rest (va_Qr post B A1 a) (vx_X px BX AX) free) (hS : va_S A0 H0 H locs) (hA : ∀ q, q < H.size → A1 q → A0 q) (hf : ∀ q, free q → A0 q) (hAX : ∀ q, q < H.size → AX q → A0 q)
    (kx : ∀ (E : String) (ce : Cell) (q9 : Addr) (u : SX) (t : State) (H1 : Heap) (locs1 : List Loc), t.heap = H1 → s.vm.Alike t.vm → px u → BX E u t → H.size ≤ H1.size → (∀ q : Nat, q < H.size → ¬ AX q → H1[q]? = H[q]?) → va_S A0 H0 H1 locs1 → H1[q9]? = some ce → ce.vm = .none → s.vm.findClass E = some ce.cls → vx_W p l e R s m args below meth c H1 locs1 (cells + mc) (slots + ms) Q (F0 m pc ls rest) q9)
    (kk : ∀ (u : S) (ra : Nat) (t : State) (H1 : Heap) (locs1 : List Loc), t.heap = H1 → s.vm.Alike t.vm → post u → B u ra t → H.size ≤ H1.size → (∀ q : Nat, q < H.size → ¬ A1 q → H1[q]? = H[q]?) → va_S A0 H0 H1 locs1 → W p l e R s m args below meth c H1 locs1 (cells + mc) (slots + ms) Q (F0 m (pc + 3) ls (.ref ra :: rest))) : W p l e R s m args below meth c H locs cells slots Q (F0 m pc ls st0) := by
  intro T hT X
  rcases hr T hT X with ⟨v, st₀, t, T', L, h0, X', hL, e1, e2, ⟨⟨u, ra, hv, hp, hb⟩, hF⟩, st⟩ | ⟨q, st₀, t, T', L, E, ce, h0, X', hL, e1, e2, ⟨u, hp, hb, hF⟩, hce, hcv, hcl, st⟩
  · cases hv
    obtain ⟨k1, k2, k3⟩ := vx_keep h0 e1 hS hA hf hL hF
    obtain ⟨t2, a1, b1⟩ := kk u ra t T'.heap (locs ++ L) e1.symm (by rw [← e2]; exact X'.warmed.alike) hp hb k1 k2 k3 T' rfl X'
    exact ⟨t2, st t2 a1, b1⟩
  · obtain ⟨k1, k2, k3⟩ := vx_keep h0 e1 hS hAX hf hL hF
    obtain ⟨t2, a1, b1⟩ := kx E ce q u t T'.heap (locs ++ L) e1.symm (by rw [← e2]; exact X'.warmed.alike) hp hb k1 k2 k3 (by rw [e1]; exact hce) hcv hcl T' rfl X'
    exact ⟨t2, st.trans a1, b1⟩
end XN
/-- an index of five places -/
theorem ix5 {x : Int32} (h : ¬ (x < 0 ∨ 5 ≤ x)) : ∃ k : Nat, k < 5 ∧ x = nI k := by
  rcases pk_ix x (n := 5) (by decide) with h1 | h1 | h1
  · exact absurd (Or.inl h1) h
  · exact absurd (Or.inr h1) h
  · exact h1
theorem in5 {k : Nat} (h : k < 5) : vp_in (nI k) 5 := vp_in_nI h (by decide)
theorem cl5 {k : Nat} (h : k < 5) : (nI k).toNatClampNeg = k := nI_clamp (by omega)
theorem bl0 {P : Prop} [Decidable P] {r : Int32} (hw : r = if P then 0 else 1) (h : r = 0) : P := by
  by_cases q : P
  · exact q
  · rw [if_neg q] at hw
    rw [hw] at h
    exact absurd h (by decide)
theorem bl1 {P : Prop} [Decidable P] {r : Int32} (hw : r = if P then 0 else 1) (h : ¬ r = 0) : ¬ P := by
  intro q
  rw [if_pos q] at hw
  exact h hw
theorem lt_or0 (x : Int32) : x < 0 ∨ 0 ≤ x := by
  by_cases h : x < 0
  · exact Or.inl h
  · exact Or.inr (Int32.not_lt.mp h)
end
section
set_option maxRecDepth 100000 in
theorem dX4_isBelow_0 : decode cX4_isBelow 0 = .ok (.iload_n 0, 1) := by decide +kernel
set_option maxRecDepth 100000 in
theorem dX4_isBelow_1 : decode cX4_isBelow 1 = .ok (.ifCond .lt 12, 3) := by decide +kernel
set_option maxRecDepth 100000 in
theorem dX4_isBelow_13 : decode cX4_isBelow 13 = .ok (.iconst 0, 1) := by decide +kernel
set_option maxRecDepth 100000 in
theorem dX4_isBelow_14 : decode cX4_isBelow 14 = .ok (.ireturn, 1) := by decide +kernel
set_option maxRecDepth 100000 in
theorem dX4_isBelow_4 : decode cX4_isBelow 4 = .ok (.iload_n 0, 1) := by decide +kernel
set_option maxRecDepth 100000 in
theorem dX4_isBelow_5 : decode cX4_isBelow 5 = .ok (.iload_n 1, 1) := by decide +kernel
set_option maxRecDepth 100000 in
theorem dX4_isBelow_6 : decode cX4_isBelow 6 = .ok (.if_icmp .ge 7, 3) := by decide +kernel
set_option maxRecDepth 100000 in
theorem dX4_isBelow_9 : decode cX4_isBelow 9 = .ok (.iconst 1, 1) := by decide +kernel
set_option maxRecDepth 100000 in
theorem dX4_isBelow_10 : decode cX4_isBelow 10 = .ok (.goto 4, 3) := by decide +kernel
set_option maxRecDepth 100000 in
theorem dX2_length_0 : decode cX2_length 0 = .ok (.aload_n 0, 1) := by decide +kernel
set_option maxRecDepth 100000 in
theorem dX2_length_1 : decode cX2_length 1 = .ok (.getfield 7, 3) := by decide +kernel
set_option maxRecDepth 100000 in
theorem in_X2_length_X2 : ∀ w ∈ wsX20, w ∈ wsX2_length := fun _ h => List.mem_cons_of_mem _ (List.mem_append_right _ h)
set_option maxRecDepth 100000 in
theorem dX2_length_4 : decode cX2_length 4 = .ok (.arraylength, 1) := by decide +kernel
set_option maxRecDepth 100000 in
theorem dX2_length_5 : decode cX2_length 5 = .ok (.ireturn, 1) := by decide +kernel
set_option maxRecDepth 100000 in
theorem dX3_isInDoubt_0 : decode cX3_isInDoubt 0 = .ok (.aload_n 0, 1) := by decide +kernel
set_option maxRecDepth 100000 in
theorem dX3_isInDoubt_1 : decode cX3_isInDoubt 1 = .ok (.getfield 22, 3) := by decide +kernel
set_option maxRecDepth 100000 in
theorem in_X3_isInDoubt_X3 : ∀ w ∈ wsX30, w ∈ wsX3_isInDoubt := fun _ h => List.mem_cons_of_mem _ (List.mem_append_right _ h)
set_option maxRecDepth 100000 in
theorem dX3_isInDoubt_4 : decode cX3_isInDoubt 4 = .ok (.ifnull 7, 3) := by decide +kernel
set_option maxRecDepth 100000 in
theorem dX3_isInDoubt_11 : decode cX3_isInDoubt 11 = .ok (.iconst 0, 1) := by decide +kernel
set_option maxRecDepth 100000 in
theorem dX3_isInDoubt_12 : decode cX3_isInDoubt 12 = .ok (.ireturn, 1) := by decide +kernel
set_option maxRecDepth 100000 in
theorem dX3_isFree_0 : decode cX3_isFree 0 = .ok (.aload_n 0, 1) := by decide +kernel
set_option maxRecDepth 100000 in
theorem dX3_isFree_1 : decode cX3_isFree 1 = .ok (.getfield 9, 3) := by decide +kernel
set_option maxRecDepth 100000 in
theorem in_X3_isFree_X3 : ∀ w ∈ wsX30, w ∈ wsX3_isFree := fun _ h => List.mem_cons_of_mem _ (List.mem_append_right _ h)
set_option maxRecDepth 100000 in
theorem dX3_isFree_4 : decode cX3_isFree 4 = .ok (.ifCond .eq 22, 3) := by decide +kernel
set_option maxRecDepth 100000 in
theorem dX3_isFree_7 : decode cX3_isFree 7 = .ok (.aload_n 0, 1) := by decide +kernel
set_option maxRecDepth 100000 in
theorem dX3_isFree_8 : decode cX3_isFree 8 = .ok (.getfield 26, 3) := by decide +kernel
set_option maxRecDepth 100000 in
theorem dX3_isFree_11 : decode cX3_isFree 11 = .ok (.iconst (-1), 1) := by decide +kernel
set_option maxRecDepth 100000 in
theorem dX3_isFree_12 : decode cX3_isFree 12 = .ok (.if_icmp .ne 14, 3) := by decide +kernel
set_option maxRecDepth 100000 in
theorem dX3_isFree_15 : decode cX3_isFree 15 = .ok (.aload_n 0, 1) := by decide +kernel
set_option maxRecDepth 100000 in
theorem dX3_isFree_16 : decode cX3_isFree 16 = .ok (.invokevirtual 39, 3) := by decide +kernel
set_option maxRecDepth 20000 in
theorem ggX3_isFree_X3_isInDoubt : GoodIn wsX3_isFree wsX3_isInDoubt := goodIn_r _ [7, 8, 9, 10, 11, 12, 13, 14, 15, 16] (by decide +kernel) (by decide +kernel)
set_option maxRecDepth 20000 in
theorem gX3_isFree_X3_isInDoubt : GoodIn wsX3_isFree (wsV RX3 39 RX3 yX3_isInDoubt wsX3_isInDoubt) := goodIn_app (goodIn_of _ (by decide +kernel)) ggX3_isFree_X3_isInDoubt
set_option maxRecDepth 100000 in
theorem dX3_isFree_19 : decode cX3_isFree 19 = .ok (.ifCond .ne 7, 3) := by decide +kernel
set_option maxRecDepth 100000 in
theorem dX3_isFree_22 : decode cX3_isFree 22 = .ok (.iconst 1, 1) := by decide +kernel
set_option maxRecDepth 100000 in
theorem dX3_isFree_23 : decode cX3_isFree 23 = .ok (.goto 4, 3) := by decide +kernel
set_option maxRecDepth 100000 in
theorem dX3_isFree_27 : decode cX3_isFree 27 = .ok (.ireturn, 1) := by decide +kernel
set_option maxRecDepth 100000 in
theorem dX4_stationAt_0 : decode cX4_stationAt 0 = .ok (.iload_n 1, 1) := by decide +kernel
set_option maxRecDepth 100000 in
theorem dX4_stationAt_1 : decode cX4_stationAt 1 = .ok (.iconst 5, 1) := by decide +kernel
set_option maxRecDepth 100000 in
theorem dX4_stationAt_2 : decode cX4_stationAt 2 = .ok (.invokestatic 46, 3) := by decide +kernel
set_option maxRecDepth 20000 in
theorem ggX4_stationAt_X4_isBelow : GoodIn wsX4_stationAt wsX4_isBelow := goodIn_r _ [7] (by decide +kernel) (by decide +kernel)
set_option maxRecDepth 20000 in
theorem gX4_stationAt_X4_isBelow : GoodIn wsX4_stationAt (va_wsS RX4 46 yX4_isBelow wsX4_isBelow) := goodIn_app (goodIn_of _ (by decide +kernel)) ggX4_stationAt_X4_isBelow
set_option maxRecDepth 100000 in
theorem dX4_stationAt_5 : decode cX4_stationAt 5 = .ok (.ifCond .ne 13, 3) := by decide +kernel
set_option maxRecDepth 100000 in
theorem dX4_stationAt_18 : decode cX4_stationAt 18 = .ok (.aload_n 0, 1) := by decide +kernel
set_option maxRecDepth 100000 in
theorem dX4_stationAt_19 : decode cX4_stationAt 19 = .ok (.getfield 11, 3) := by decide +kernel
set_option maxRecDepth 100000 in
theorem in_X4_stationAt_X4 : ∀ w ∈ wsX40, w ∈ wsX4_stationAt := fun _ h => List.mem_cons_of_mem _ (List.mem_append_left _ (List.mem_append_right _ h))
set_option maxRecDepth 100000 in
theorem dX4_stationAt_22 : decode cX4_stationAt 22 = .ok (.iload_n 1, 1) := by decide +kernel
set_option maxRecDepth 100000 in
theorem dX4_stationAt_23 : decode cX4_stationAt 23 = .ok (.aaload, 1) := by decide +kernel
set_option maxRecDepth 100000 in
theorem dX4_stationAt_24 : decode cX4_stationAt 24 = .ok (.areturn, 1) := by decide +kernel
set_option maxRecDepth 100000 in
theorem dX4_stationAt_8 : decode cX4_stationAt 8 = .ok (.new 247, 3) := by decide +kernel
set_option maxRecDepth 100000 in
theorem dX4_stationAt_11 : decode cX4_stationAt 11 = .ok (.dup, 1) := by decide +kernel
set_option maxRecDepth 100000 in
theorem dX4_stationAt_12 : decode cX4_stationAt 12 = .ok (.ldc 249, 2) := by decide +kernel
set_option maxRecDepth 100000 in
theorem dX4_stationAt_14 : decode cX4_stationAt 14 = .ok (.invokespecial 251, 3) := by decide +kernel
set_option maxRecDepth 100000 in
theorem dX4_stationAt_17 : decode cX4_stationAt 17 = .ok (.athrow, 1) := by decide +kernel
set_option maxRecDepth 100000 in
theorem th_X4_stationAt_IOOBE : ∀ w ∈ (vx_atS RX4 251 "java/lang/IndexOutOfBoundsException" ["java/lang/RuntimeException", "java/lang/Exception"]).filter goodWord, w ∈ wsX4_stationAt := fun _ h => List.mem_cons_of_mem _ (List.mem_append_right _ h)
set_option maxRecDepth 100000 in
theorem dX4_count_0 : decode cX4_count 0 = .ok (.aload_n 0, 1) := by decide +kernel
set_option maxRecDepth 100000 in
theorem dX4_count_1 : decode cX4_count 1 = .ok (.iload_n 1, 1) := by decide +kernel
set_option maxRecDepth 100000 in
theorem dX4_count_2 : decode cX4_count 2 = .ok (.invokevirtual 42, 3) := by decide +kernel
set_option maxRecDepth 20000 in
theorem ggX4_count_X4_stationAt : GoodIn wsX4_count wsX4_stationAt := goodIn_ca (goodIn_r _ [5, 6, 7, 8, 9, 10, 4, 11, 25, 26, 27, 28] (by decide +kernel) (by decide +kernel)) (goodIn_sub (fun _ h => List.mem_cons_of_mem _ (List.mem_append_right _ h)) (by decide +kernel))
set_option maxRecDepth 20000 in
theorem gX4_count_X4_stationAt : GoodIn wsX4_count (wsV RX4 42 RX4 yX4_stationAt wsX4_stationAt) := goodIn_app (goodIn_of _ (by decide +kernel)) ggX4_count_X4_stationAt
set_option maxRecDepth 100000 in
theorem dX4_count_5 : decode cX4_count 5 = .ok (.getfield 61, 3) := by decide +kernel
set_option maxRecDepth 100000 in
theorem in_X4_count_X3 : ∀ w ∈ wsX30, w ∈ wsX4_count := fun _ h => List.mem_cons_of_mem _ (List.mem_append_left _ (List.mem_append_left _ (List.mem_append_left _ (List.mem_append_right _ h))))
set_option maxRecDepth 100000 in
theorem dX4_count_8 : decode cX4_count 8 = .ok (.invokevirtual 107, 3) := by decide +kernel
set_option maxRecDepth 20000 in
theorem ggX4_count_X2_length : GoodIn wsX4_count wsX2_length := goodIn_r _ [15, 16, 29, 30, 31, 32] (by decide +kernel) (by decide +kernel)
set_option maxRecDepth 20000 in
theorem gX4_count_X2_length_n107 : GoodIn wsX4_count (wsX2_length) := ggX4_count_X2_length
set_option maxRecDepth 100000 in
theorem dX4_count_11 : decode cX4_count 11 = .ok (.ireturn, 1) := by decide +kernel
set_option maxHeartbeats 4000000 in
set_option maxRecDepth 100000 in
theorem c_X4_isBelow (l : Launch) (hlt : l.stackTraces = false) (D : va_G) (tC : Nat → ClassId) (dz sz : Nat) (v : Int32) (bd : Int32)  : Met l yX4_isBelow wsX4_isBelow ({ frames := 0, cells := 0, slots := 0, locals := 0 }) (va_Pc [.int v, .int bd] (pB D tC dz [] sz)) (va_Qi (fun (r : Int32) (_ : Unit) => r = if v < 0 ∨ bd ≤ v then 0 else 1) (fun (_ : Unit) t => pA D tC (va_A [] sz) [] t) (va_A [] sz)) 0 0 (va_A [] sz) := by
  refine Met.ofW (cc := cX4_isBelow) (maxL := 2) (ret := (some .boolean)) (by decide) rfl ?_
  intro p e s m args below meth c s₁ B hml hv
  obtain ⟨rfl, hsz, hP, hK, hD0, hN, hE⟩ := hv
  have hx := B.exec
  have hb := B.bytes
  have hr := B.returns
  have hts := atoms_spec (ws := wsX4_isBelow) B.pre
  have hown : s.vm.findClass RX4 = some m.cls := findClass_of_methodNamed B.named
  have hlocks := B.notSynchronized
  subst hsz
  have hD := hD0.self (sz := s.heap.size)
  generalize hAe : va_A [] s.heap.size = A at hD hE ⊢
  have hA : ∀ q : Nat, s.heap.size ≤ q → A q := fun q h => by rw [← hAe]; exact Or.inr h
  have hS : va_S A s.heap s.heap [] := va_S.rf
  have hP : va_P D vwCl [] s.heap := hP
  have hl := lv_entry ([.int v, .int bd]) (n := 2) (Nat.le_of_ble_eq_true rfl)
  rw [lg_entry_eq]
  generalize (lg_sl ([.int v, .int bd]) ++ List.replicate (2 - (lg_sl ([.int v, .int bd])).length) Slot.unset).toArray = ls at hl ⊢
  have hl : lv_has ls 2 [(0, .int v), (1, .int bd)] := hl
  refine lv_iload_n hx hb dX4_isBelow_0 rfl (lv_at hl 0 rfl) ?_
  refine lv_if_lt (tgt := 13) hx hb dX4_isBelow_1 (by decide) (fun c_1 => ?_) (fun c_1 => ?_)
  · skip
    refine lv_iconst (v := 0) hx hb dX4_isBelow_13 (by decide) ?_
    have hP9 := hP.sub (ws' := []) [] rfl
    have hD9 := hD.sub (ws' := []) [] (by decide) rfl
    refine W.widen (k := 0) (n := 0) (by omega) (by omega) ?_
    exact W.zret (v := 0) hx hb hr (by decide) (fun t ht hW => ⟨⟨0, (), rfl, (by simp [c_1]), (by rw [ht]; exact hP9), va_K.moved hW.alike hK, hD9⟩, hS.F ht⟩) hS.2.2 dX4_isBelow_14 hlocks
  · skip
    refine lv_iload_n hx hb dX4_isBelow_4 rfl (lv_at hl 0 rfl) ?_
    refine lv_iload_n hx hb dX4_isBelow_5 rfl (lv_at hl 1 rfl) ?_
    refine lv_icmp_ge (tgt := 13) hx hb dX4_isBelow_6 (by decide) (fun c_2 => ?_) (fun c_2 => ?_)
    · skip
      refine lv_iconst (v := 0) hx hb dX4_isBelow_13 (by decide) ?_
      have hP9 := hP.sub (ws' := []) [] rfl
      have hD9 := hD.sub (ws' := []) [] (by decide) rfl
      refine W.widen (k := 0) (n := 0) (by omega) (by omega) ?_
      exact W.zret (v := 0) hx hb hr (by decide) (fun t ht hW => ⟨⟨0, (), rfl, (by simp [c_1, c_2]), (by rw [ht]; exact hP9), va_K.moved hW.alike hK, hD9⟩, hS.F ht⟩) hS.2.2 dX4_isBelow_14 hlocks
    · skip
      refine lv_iconst (v := 1) hx hb dX4_isBelow_9 (by decide) ?_
      refine lv_goto (tgt := 14) hx hb dX4_isBelow_10 (by decide) ?_
      have hP9 := hP.sub (ws' := []) [] rfl
      have hD9 := hD.sub (ws' := []) [] (by decide) rfl
      refine W.widen (k := 0) (n := 0) (by omega) (by omega) ?_
      exact W.zret (v := 1) hx hb hr (by decide) (fun t ht hW => ⟨⟨1, (), rfl, (by simp [c_1, c_2]), (by rw [ht]; exact hP9), va_K.moved hW.alike hK, hD9⟩, hS.F ht⟩) hS.2.2 dX4_isBelow_14 hlocks
set_option maxHeartbeats 4000000 in
set_option maxRecDepth 100000 in
theorem c_X2_length (l : Launch) (hlt : l.stackTraces = false) (D : va_G) (tC : Nat → ClassId) (dz sz : Nat) (f : Nat) (e1 : Nat) (e2 : Nat) (z1 : Nat → Int32)  : Met l yX2_length wsX2_length ({ frames := 0, cells := 0, slots := 0, locals := 0 }) (va_Pc [.ref f] (pB D tC dz [(f, .inr (3, [.ref e1, .ref e2, .int 5, .int 0])), (e1, wI tC 0 z1)] sz)) (va_Qi (fun (r : Int32) (_ : Unit) => r = 0) (fun (_ : Unit) t => pA D tC (va_A [(f, .inr (3, [.ref e1, .ref e2, .int 5, .int 0])), (e1, wI tC 0 z1)] sz) [(f, .inr (3, [.ref e1, .ref e2, .int 5, .int 0])), (e1, wI tC 0 z1)] t) (va_A [(f, .inr (3, [.ref e1, .ref e2, .int 5, .int 0])), (e1, wI tC 0 z1)] sz)) 0 0 (va_A [(f, .inr (3, [.ref e1, .ref e2, .int 5, .int 0])), (e1, wI tC 0 z1)] sz) := by
  refine Met.ofW (cc := cX2_length) (maxL := 1) (ret := (some .int)) (by decide) rfl ?_
  intro p e s m args below meth c s₁ B hml hv
  obtain ⟨rfl, hsz, hP, hK, hD0, hN, hE⟩ := hv
  have hx := B.exec
  have hb := B.bytes
  have hr := B.returns
  have hts := atoms_spec (ws := wsX2_length) B.pre
  have hown : s.vm.findClass RX2 = some m.cls := findClass_of_methodNamed B.named
  have hlocks := B.notSynchronized
  subst hsz
  have hD := hD0.self (sz := s.heap.size)
  generalize hAe : va_A [(f, .inr (3, [.ref e1, .ref e2, .int 5, .int 0])), (e1, wI tC 0 z1)] s.heap.size = A at hD hE ⊢
  have hA : ∀ q : Nat, s.heap.size ≤ q → A q := fun q h => by rw [← hAe]; exact Or.inr h
  have hS : va_S A s.heap s.heap [] := va_S.rf
  have hP : va_P D vwCl [(f, .inr (3, [.ref e1, .ref e2, .int 5, .int 0])), (e1, wI tC 0 z1)] s.heap := hP
  have hl := lv_entry ([.ref f]) (n := 1) (Nat.le_of_ble_eq_true rfl)
  rw [lg_entry_eq]
  generalize (lg_sl ([.ref f]) ++ List.replicate (1 - (lg_sl ([.ref f])).length) Slot.unset).toArray = ls at hl ⊢
  have hl : lv_has ls 1 [(0, .ref f)] := hl
  have w_0 := hts (.fieldLink RX2 7 "NoticeStations$Standing" "entries" "[I") (by decide +kernel)
  refine lv_aload_n hx hb dX2_length_0 rfl (lv_at hl 0 rfl) ?_
  refine va_get (D := D) (ci := 3) (v := .ref e1) (C := RX2) (T := TX2) (N := 4) hx hb hts in_X2_length_X2 hown hK hP 0 rfl rfl 0 (by decide) w_0 (fun _ h9 => h9) rfl dX2_length_1 ?_
  refine va_alen (v := 0) hx hb hK hP 1 0 rfl rfl (by first | decide | rfl) dX2_length_4 ?_
  have hP9 := hP.sub (ws' := [(f, .inr (3, [.ref e1, .ref e2, .int 5, .int 0])), (e1, wI tC 0 z1)]) [0, 1] rfl
  have hD9 := hD.sub (ws' := [(f, .inr (3, [.ref e1, .ref e2, .int 5, .int 0])), (e1, wI tC 0 z1)]) [0, 1] (by decide) rfl
  refine W.widen (k := 0) (n := 0) (by omega) (by omega) ?_
  exact W.iret (v := 0) hx hb hr (fun t ht hW => ⟨⟨0, (), rfl, (by first | rfl | simp), (by rw [ht]; exact hP9), va_K.moved hW.alike hK, hD9⟩, hS.F ht⟩) hS.2.2 dX2_length_5 hlocks
set_option maxHeartbeats 4000000 in
set_option maxRecDepth 100000 in
theorem c_X3_isInDoubt (l : Launch) (hlt : l.stackTraces = false) (D : va_G) (tC : Nat → ClassId) (dz sz : Nat) (f : Nat) (q : Nat) (ow : Int32)  : Met l yX3_isInDoubt wsX3_isInDoubt ({ frames := 0, cells := 0, slots := 0, locals := 0 }) (va_Pc [.ref q] (pB D tC dz [(q, .inr (4, [.int ow, .int 1, .ref f, .int 0, .int (-1), .null, .int (-1), .null]))] sz)) (va_Qi (fun (r : Int32) (_ : Unit) => r = 0) (fun (_ : Unit) t => pA D tC (va_A [(q, .inr (4, [.int ow, .int 1, .ref f, .int 0, .int (-1), .null, .int (-1), .null]))] sz) [(q, .inr (4, [.int ow, .int 1, .ref f, .int 0, .int (-1), .null, .int (-1), .null]))] t) (va_A [(q, .inr (4, [.int ow, .int 1, .ref f, .int 0, .int (-1), .null, .int (-1), .null]))] sz)) 0 0 (va_A [(q, .inr (4, [.int ow, .int 1, .ref f, .int 0, .int (-1), .null, .int (-1), .null]))] sz) := by
  refine Met.ofW (cc := cX3_isInDoubt) (maxL := 1) (ret := (some .boolean)) (by decide) rfl ?_
  intro p e s m args below meth c s₁ B hml hv
  obtain ⟨rfl, hsz, hP, hK, hD0, hN, hE⟩ := hv
  have hx := B.exec
  have hb := B.bytes
  have hr := B.returns
  have hts := atoms_spec (ws := wsX3_isInDoubt) B.pre
  have hown : s.vm.findClass RX3 = some m.cls := findClass_of_methodNamed B.named
  have hlocks := B.notSynchronized
  subst hsz
  have hD := hD0.self (sz := s.heap.size)
  generalize hAe : va_A [(q, .inr (4, [.int ow, .int 1, .ref f, .int 0, .int (-1), .null, .int (-1), .null]))] s.heap.size = A at hD hE ⊢
  have hA : ∀ q : Nat, s.heap.size ≤ q → A q := fun q h => by rw [← hAe]; exact Or.inr h
  have hS : va_S A s.heap s.heap [] := va_S.rf
  have hP : va_P D vwCl [(q, .inr (4, [.int ow, .int 1, .ref f, .int 0, .int (-1), .null, .int (-1), .null]))] s.heap := hP
  have hl := lv_entry ([.ref q]) (n := 1) (Nat.le_of_ble_eq_true rfl)
  rw [lg_entry_eq]
  generalize (lg_sl ([.ref q]) ++ List.replicate (1 - (lg_sl ([.ref q])).length) Slot.unset).toArray = ls at hl ⊢
  have hl : lv_has ls 1 [(0, .ref q)] := hl
  have w_0 := hts (.fieldLink RX3 22 "NoticeStations$Station" "preparedStanding" "LNoticeStations$Standing;") (by decide +kernel)
  refine lv_aload_n hx hb dX3_isInDoubt_0 rfl (lv_at hl 0 rfl) ?_
  refine va_get (D := D) (ci := 4) (v := .null) (C := RX3) (T := TX3) (N := 8) hx hb hts in_X3_isInDoubt_X3 hown hK hP 0 rfl rfl 5 (by decide) w_0 (fun _ h9 => h9) rfl dX3_isInDoubt_1 ?_
  refine lv_ifnullN (tgt := 11) hx hb dX3_isInDoubt_4 (by decide) ?_
  refine lv_iconst (v := 0) hx hb dX3_isInDoubt_11 (by decide) ?_
  have hP9 := hP.sub (ws' := [(q, .inr (4, [.int ow, .int 1, .ref f, .int 0, .int (-1), .null, .int (-1), .null]))]) [0] rfl
  have hD9 := hD.sub (ws' := [(q, .inr (4, [.int ow, .int 1, .ref f, .int 0, .int (-1), .null, .int (-1), .null]))]) [0] (by decide) rfl
  refine W.widen (k := 0) (n := 0) (by omega) (by omega) ?_
  exact W.zret (v := 0) hx hb hr (by decide) (fun t ht hW => ⟨⟨0, (), rfl, (by first | rfl | simp), (by rw [ht]; exact hP9), va_K.moved hW.alike hK, hD9⟩, hS.F ht⟩) hS.2.2 dX3_isInDoubt_12 hlocks
set_option maxHeartbeats 4000000 in
set_option maxRecDepth 100000 in
theorem c_X3_isFree (l : Launch) (hlt : l.stackTraces = false) (D : va_G) (tC : Nat → ClassId) (dz sz : Nat) (f : Nat) (q : Nat) (ow : Int32)  : Met l yX3_isFree wsX3_isFree ({ frames := 1, cells := 0, slots := 0, locals := 20 }) (va_Pc [.ref q] (pB D tC dz [(q, .inr (4, [.int ow, .int 1, .ref f, .int 0, .int (-1), .null, .int (-1), .null]))] sz)) (va_Qi (fun (r : Int32) (_ : Unit) => r = 1) (fun (_ : Unit) t => pA D tC (va_A [(q, .inr (4, [.int ow, .int 1, .ref f, .int 0, .int (-1), .null, .int (-1), .null]))] sz) [(q, .inr (4, [.int ow, .int 1, .ref f, .int 0, .int (-1), .null, .int (-1), .null]))] t) (va_A [(q, .inr (4, [.int ow, .int 1, .ref f, .int 0, .int (-1), .null, .int (-1), .null]))] sz)) 0 0 (va_A [(q, .inr (4, [.int ow, .int 1, .ref f, .int 0, .int (-1), .null, .int (-1), .null]))] sz) := by
  refine Met.ofW (cc := cX3_isFree) (maxL := 1) (ret := (some .boolean)) (by decide) rfl ?_
  intro p e s m args below meth c s₁ B hml hv
  obtain ⟨rfl, hsz, hP, hK, hD0, hN, hE⟩ := hv
  have hx := B.exec
  have hb := B.bytes
  have hr := B.returns
  have hts := atoms_spec (ws := wsX3_isFree) B.pre
  have hown : s.vm.findClass RX3 = some m.cls := findClass_of_methodNamed B.named
  have hlocks := B.notSynchronized
  subst hsz
  have hD := hD0.self (sz := s.heap.size)
  generalize hAe : va_A [(q, .inr (4, [.int ow, .int 1, .ref f, .int 0, .int (-1), .null, .int (-1), .null]))] s.heap.size = A at hD hE ⊢
  have hA : ∀ q : Nat, s.heap.size ≤ q → A q := fun q h => by rw [← hAe]; exact Or.inr h
  have hS : va_S A s.heap s.heap [] := va_S.rf
  have hP : va_P D vwCl [(q, .inr (4, [.int ow, .int 1, .ref f, .int 0, .int (-1), .null, .int (-1), .null]))] s.heap := hP
  have hl := lv_entry ([.ref q]) (n := 1) (Nat.le_of_ble_eq_true rfl)
  rw [lg_entry_eq]
  generalize (lg_sl ([.ref q]) ++ List.replicate (1 - (lg_sl ([.ref q])).length) Slot.unset).toArray = ls at hl ⊢
  have hl : lv_has ls 1 [(0, .ref q)] := hl
  have w_0 := hts (.fieldLink RX3 9 "NoticeStations$Station" "up" "Z") (by decide +kernel)
  have w_1 := hts (.fieldLink RX3 26 "NoticeStations$Station" "lock" "I") (by decide +kernel)
  refine lv_aload_n hx hb dX3_isFree_0 rfl (lv_at hl 0 rfl) ?_
  refine va_get (D := D) (ci := 4) (v := .int 1) (C := RX3) (T := TX3) (N := 8) hx hb hts in_X3_isFree_X3 hown hK hP 0 rfl rfl 1 (by decide) w_0 (fun _ h9 => h9) rfl dX3_isFree_1 ?_
  refine lv_if_eq (tgt := 26) hx hb dX3_isFree_4 (by decide) (fun hc => absurd hc (by decide)) (fun _ => ?_)
  refine lv_aload_n hx hb dX3_isFree_7 rfl (lv_at hl 0 rfl) ?_
  refine va_get (D := D) (ci := 4) (v := .int (-1)) (C := RX3) (T := TX3) (N := 8) hx hb hts in_X3_isFree_X3 hown hK hP 0 rfl rfl 6 (by decide) w_1 (fun _ h9 => h9) rfl dX3_isFree_8 ?_
  refine lv_iconst (v := (-1)) hx hb dX3_isFree_11 (by decide) ?_
  refine lv_icmp_ne (tgt := 26) hx hb dX3_isFree_12 (by decide) (fun hc => absurd (by decide) hc) (fun _ => ?_)
  refine lv_aload_n hx hb dX3_isFree_15 rfl (lv_at hl 0 rfl) ?_
  have hPc := hP.sub (ws' := [(q, .inr (4, [.int ow, .int 1, .ref f, .int 0, .int (-1), .null, .int (-1), .null]))]) [0] rfl
  have hDc := hD.sub (ws' := [(q, .inr (4, [.int ow, .int 1, .ref f, .int 0, .int (-1), .null, .int (-1), .null]))]) [0] (by decide) rfl
  have hFc := va_free (wc := [(q, .inr (4, [.int ow, .int 1, .ref f, .int 0, .int (-1), .null, .int (-1), .null]))]) hD hS hA [0] rfl
  refine va_calli (va_runV (As := []) (rest := []) ⟨hx, hb, hml, hown, hts⟩ (c_X3_isInDoubt l hlt D tC dz s.heap.size f q ow ) (cwV 0 hts gX3_isFree_X3_isInDoubt rfl rfl rfl (by decide +kernel) ⟨Nat.le_of_ble_eq_true rfl, Nat.le_of_ble_eq_true rfl⟩) ⟨pB_blind, va_recv hK hPc (ci := 4) (q0 := 0) rfl rfl, pB_at hPc hDc hK hN hE hS hFc⟩ rfl rfl hl.1 rfl (lv_room (Nat.le_of_ble_eq_true rfl)) dX3_isFree_16 ⟨Nat.le_of_ble_eq_true rfl, Nat.le_of_ble_eq_true rfl⟩) hS (fun q _ h => hFc q h) hFc (fun r_1 u t H1 locs ht hvm hw hB hz1 hk1 hS => ?_)
  obtain ⟨hP1, _, hD1⟩ := hB
  have hw_2 := hw
  rw [ht] at hP1
  obtain ⟨hP, hD⟩ := va_join (wr := []) (w1 := [(q, .inr (4, [.int ow, .int 1, .ref f, .int 0, .int (-1), .null, .int (-1), .null]))]) hP hD [0] [] rfl rfl (by decide) (by decide) hk1 hFc hP1 hD1
  generalize H1 = H at hP hS ⊢
  have hP : va_P D vwCl [(q, .inr (4, [.int ow, .int 1, .ref f, .int 0, .int (-1), .null, .int (-1), .null]))] H := hP
  have hD : va_D A [(q, .inr (4, [.int ow, .int 1, .ref f, .int 0, .int (-1), .null, .int (-1), .null]))] := hD
  subst hw_2
  refine lv_if_ne (tgt := 26) hx hb dX3_isFree_19 (by decide) (fun hc => absurd (by decide) hc) (fun _ => ?_)
  refine lv_iconst (v := 1) hx hb dX3_isFree_22 (by decide) ?_
  refine lv_goto (tgt := 27) hx hb dX3_isFree_23 (by decide) ?_
  have hP9 := hP.sub (ws' := [(q, .inr (4, [.int ow, .int 1, .ref f, .int 0, .int (-1), .null, .int (-1), .null]))]) [0] rfl
  have hD9 := hD.sub (ws' := [(q, .inr (4, [.int ow, .int 1, .ref f, .int 0, .int (-1), .null, .int (-1), .null]))]) [0] (by decide) rfl
  refine W.widen (k := 0) (n := 0) (by omega) (by omega) ?_
  exact W.zret (v := 1) hx hb hr (by decide) (fun t ht hW => ⟨⟨1, (), rfl, (by first | rfl | simp), (by rw [ht]; exact hP9), va_K.moved hW.alike hK, hD9⟩, hS.F ht⟩) hS.2.2 dX3_isFree_27 hlocks
set_option maxHeartbeats 4000000 in
set_option maxRecDepth 100000 in
theorem c_X4_stationAt (l : Launch) (hlt : l.stackTraces = false) (D : va_G) (tC : Nat → ClassId) (dz sz : Nat) (x : Nat) (a1 : Nat) (a2 : Nat) (a3 : Nat) (a4 : Nat) (fs : Nat → Option Nat) (p0 : Int32) (q : Nat) (hq : ∀ k : Nat, k < 5 → p0 = nI k → fs k = some q) : vx_Met l yX4_stationAt wsX4_stationAt ({ frames := 6, cells := 1, slots := 6, locals := 82 }) (va_Pc [.ref x, .int p0] (pB D tC dz [(x, .inr (5, [.ref a1, .ref a2, .ref a3, .ref a4])), (a1, wT tC 5 fs)] sz)) (va_Qr (fun (_ : Unit) => True) (fun (_ : Unit) (r : Nat) t => r = q ∧ ¬ (p0 < 0 ∨ 5 ≤ p0) ∧ pA D tC (va_A [(x, .inr (5, [.ref a1, .ref a2, .ref a3, .ref a4])), (a1, wT tC 5 fs)] sz) [(x, .inr (5, [.ref a1, .ref a2, .ref a3, .ref a4])), (a1, wT tC 5 fs)] t) (va_A [(x, .inr (5, [.ref a1, .ref a2, .ref a3, .ref a4])), (a1, wT tC 5 fs)] sz)) (xX (fun E => E = "java/lang/IndexOutOfBoundsException" ∧ (p0 < 0 ∨ 5 ≤ p0)) (va_A [(x, .inr (5, [.ref a1, .ref a2, .ref a3, .ref a4])), (a1, wT tC 5 fs)] sz)) 1 6 (va_A [(x, .inr (5, [.ref a1, .ref a2, .ref a3, .ref a4])), (a1, wT tC 5 fs)] sz) := by
  refine vx_ofW (cc := cX4_stationAt) (maxL := 2) (ret := (some (.object "NoticeStations$Station"))) (by decide) rfl ?_
  intro p e s m args below meth c s₁ B hml hnx hv
  obtain ⟨rfl, hsz, hP, hK, hD0, hN, hE⟩ := hv
  have hx := B.exec
  have hb := B.bytes
  have hr := B.returns
  have hts := atoms_spec (ws := wsX4_stationAt) B.pre
  have hown : s.vm.findClass RX4 = some m.cls := findClass_of_methodNamed B.named
  have hlocks := B.notSynchronized
  subst hsz
  have hD := hD0.self (sz := s.heap.size)
  generalize hAe : va_A [(x, .inr (5, [.ref a1, .ref a2, .ref a3, .ref a4])), (a1, wT tC 5 fs)] s.heap.size = A at hD hE ⊢
  have hA : ∀ q : Nat, s.heap.size ≤ q → A q := fun q h => by rw [← hAe]; exact Or.inr h
  have hS : va_S A s.heap s.heap [] := va_S.rf
  have hP : va_P D vwCl [(x, .inr (5, [.ref a1, .ref a2, .ref a3, .ref a4])), (a1, wT tC 5 fs)] s.heap := hP
  have hl := lv_entry ([.ref x, .int p0]) (n := 2) (Nat.le_of_ble_eq_true rfl)
  rw [lg_entry_eq]
  generalize (lg_sl ([.ref x, .int p0]) ++ List.replicate (2 - (lg_sl ([.ref x, .int p0])).length) Slot.unset).toArray = ls at hl ⊢
  have hl : lv_has ls 2 [(0, .ref x), (1, .int p0)] := hl
  have w_0 := hts (.fieldLink RX4 11 "NoticeStations" "stations" "[LNoticeStations$Station;") (by decide +kernel)
  have w_1 := hts (.classLink RX4 247 "java/lang/IndexOutOfBoundsException") (by decide +kernel)
  have w_2 := hts (.initialized "java/lang/IndexOutOfBoundsException") (by decide +kernel)
  refine lv_iload_n hx hb dX4_stationAt_0 rfl (lv_at hl 1 rfl) ?_
  refine lv_iconst (v := 5) hx hb dX4_stationAt_1 (by decide) ?_
  have hPc := hP.sub (ws' := []) [] rfl
  have hDc := hD.sub (ws' := []) [] (by decide) rfl
  have hFc := va_free (wc := []) hD hS hA [] rfl
  refine va_calli (va_runS (As := [.int p0, .int 5]) (rest := []) ⟨hx, hb, hml, hown, hts⟩ (c_X4_isBelow l hlt D tC dz s.heap.size p0 5 ) (va_cwS 2 hts gX4_stationAt_X4_isBelow rfl rfl rfl (by decide +kernel) ⟨Nat.le_of_ble_eq_true rfl, Nat.le_of_ble_eq_true rfl⟩) ⟨pB_blind, pB_at hPc hDc hK hN hE hS hFc⟩ rfl rfl hl.1 rfl (lv_room (Nat.le_of_ble_eq_true rfl)) dX4_stationAt_2 ⟨Nat.le_of_ble_eq_true rfl, Nat.le_of_ble_eq_true rfl⟩) hS (fun q _ h => hFc q h) hFc (fun r_1 u t H1 locs ht hvm hw hB hz1 hk1 hS => ?_)
  obtain ⟨hP1, _, hD1⟩ := hB
  have hw_2 := hw
  rw [ht] at hP1
  obtain ⟨hP, hD⟩ := va_join (wr := [(x, .inr (5, [.ref a1, .ref a2, .ref a3, .ref a4])), (a1, wT tC 5 fs)]) (w1 := []) hP hD [] [0, 1] rfl rfl (by decide) (by decide) hk1 hFc hP1 hD1
  generalize H1 = H at hP hS ⊢
  have hP : va_P D vwCl [(x, .inr (5, [.ref a1, .ref a2, .ref a3, .ref a4])), (a1, wT tC 5 fs)] H := hP
  have hD : va_D A [(x, .inr (5, [.ref a1, .ref a2, .ref a3, .ref a4])), (a1, wT tC 5 fs)] := hD
  refine lv_if_ne (tgt := 18) hx hb dX4_stationAt_5 (by decide) (fun c_3 => ?_) (fun c_3 => ?_)
  · skip
    refine lv_aload_n hx hb dX4_stationAt_18 rfl (lv_at hl 0 rfl) ?_
    refine va_get (D := D) (ci := 5) (v := .ref a1) (C := RX4) (T := TX4) (N := 4) hx hb hts in_X4_stationAt_X4 hown hK hP 0 rfl rfl 0 (by decide) w_0 (fun _ h9 => h9) rfl dX4_stationAt_19 ?_
    refine lv_iload_n hx hb dX4_stationAt_22 rfl (lv_at hl 1 rfl) ?_
    obtain ⟨k, hk, ek⟩ := ix5 (bl1 hw_2 c_3)
    refine va_aldq hx hb hK hP 1 3 rfl rfl (by rw [ek]; exact in5 hk) dX4_stationAt_23 ?_
    rw [show fs p0.toNatClampNeg = some q from (by rw [ek, cl5 hk]; exact hq k hk ek)]
    refine W.eq (g2 := F0 m 24 ls [.ref q]) rfl ?_
    have hP9 := hP.sub (ws' := [(x, .inr (5, [.ref a1, .ref a2, .ref a3, .ref a4])), (a1, wT tC 5 fs)]) [0, 1] rfl
    have hD9 := hD.sub (ws' := [(x, .inr (5, [.ref a1, .ref a2, .ref a3, .ref a4])), (a1, wT tC 5 fs)]) [0, 1] (by decide) rfl
    refine W.widen (k := 1) (n := 6) (by omega) (by omega) ?_
    exact vx_ret (W.aret (v := .ref q) hx hb hr (Or.inl ⟨_, rfl⟩) (Or.inr ⟨_, rfl⟩) (fun t ht hW => ⟨⟨(), q, rfl, trivial, rfl, bl1 hw_2 c_3, (by rw [ht]; exact hP9), va_K.moved hW.alike hK, hD9⟩, hS.F ht⟩) hS.2.2 dX4_stationAt_24 hlocks)
  · skip
    obtain ⟨sa, hstr⟩ := hN.2.1 (249, "no such station") (by decide +kernel)
    exact vx_throwS hx hb hlt hown (by decide +kernel) (by decide +kernel) w_1 w_2 hstr (vx_hat (fun w hw => hts w (th_X4_stationAt_IOOBE w hw)) at_IOOBE_rest (at_IOOBE_hat hN)) at_IOOBE_ok hE.1 hE.2.1 hS (by rw [hml]; exact hl.1) dX4_stationAt_8 dX4_stationAt_11 dX4_stationAt_12 dX4_stationAt_14 dX4_stationAt_17 (fun x h => (hnx x h).elim) (by decide) (by decide) (Nat.le_of_ble_eq_true rfl) (Nat.le_of_ble_eq_true rfl) hlocks (fun t _ h1 h2 => ⟨(), trivial, ⟨rfl, bl0 hw_2 c_3⟩, xF hS h1 h2⟩) hS.2.2 (Nat.le_of_ble_eq_true rfl) (Nat.le_of_ble_eq_true rfl)
set_option maxHeartbeats 4000000 in
set_option maxRecDepth 100000 in
theorem c_X4_count (l : Launch) (hlt : l.stackTraces = false) (D : va_G) (tC : Nat → ClassId) (dz sz : Nat) (x : Nat) (a1 : Nat) (a2 : Nat) (a3 : Nat) (a4 : Nat) (fs : Nat → Option Nat) (p0 : Int32) (f : Nat) (e1 : Nat) (e2 : Nat) (z1 : Nat → Int32) (q : Nat) (ow : Int32) (hq : ∀ k : Nat, k < 5 → p0 = nI k → fs k = some q) : vx_Met l yX4_count wsX4_count ({ frames := 7, cells := 1, slots := 6, locals := 103 }) (va_Pc [.ref x, .int p0] (pB D tC dz [(x, .inr (5, [.ref a1, .ref a2, .ref a3, .ref a4])), (a1, wT tC 5 fs), (q, .inr (4, [.int ow, .int 1, .ref f, .int 0, .int (-1), .null, .int (-1), .null])), (f, .inr (3, [.ref e1, .ref e2, .int 5, .int 0])), (e1, wI tC 0 z1)] sz)) (va_Qi (fun (r : Int32) (_ : Unit) => r = 0 ∧ ¬ (p0 < 0 ∨ 5 ≤ p0)) (fun (_ : Unit) t => pA D tC (va_A [(x, .inr (5, [.ref a1, .ref a2, .ref a3, .ref a4])), (a1, wT tC 5 fs), (q, .inr (4, [.int ow, .int 1, .ref f, .int 0, .int (-1), .null, .int (-1), .null])), (f, .inr (3, [.ref e1, .ref e2, .int 5, .int 0])), (e1, wI tC 0 z1)] sz) [] t) (va_A [(x, .inr (5, [.ref a1, .ref a2, .ref a3, .ref a4])), (a1, wT tC 5 fs), (q, .inr (4, [.int ow, .int 1, .ref f, .int 0, .int (-1), .null, .int (-1), .null])), (f, .inr (3, [.ref e1, .ref e2, .int 5, .int 0])), (e1, wI tC 0 z1)] sz)) (xX (fun E => E = "java/lang/IndexOutOfBoundsException" ∧ (p0 < 0 ∨ 5 ≤ p0)) (va_A [(x, .inr (5, [.ref a1, .ref a2, .ref a3, .ref a4])), (a1, wT tC 5 fs), (q, .inr (4, [.int ow, .int 1, .ref f, .int 0, .int (-1), .null, .int (-1), .null])), (f, .inr (3, [.ref e1, .ref e2, .int 5, .int 0])), (e1, wI tC 0 z1)] sz)) 1 6 (va_A [(x, .inr (5, [.ref a1, .ref a2, .ref a3, .ref a4])), (a1, wT tC 5 fs), (q, .inr (4, [.int ow, .int 1, .ref f, .int 0, .int (-1), .null, .int (-1), .null])), (f, .inr (3, [.ref e1, .ref e2, .int 5, .int 0])), (e1, wI tC 0 z1)] sz) := by
  refine vx_ofW (cc := cX4_count) (maxL := 2) (ret := (some .int)) (by decide) rfl ?_
  intro p e s m args below meth c s₁ B hml hnx hv
  obtain ⟨rfl, hsz, hP, hK, hD0, hN, hE⟩ := hv
  have hx := B.exec
  have hb := B.bytes
  have hr := B.returns
  have hts := atoms_spec (ws := wsX4_count) B.pre
  have hown : s.vm.findClass RX4 = some m.cls := findClass_of_methodNamed B.named
  have hlocks := B.notSynchronized
  subst hsz
  have hD := hD0.self (sz := s.heap.size)
  generalize hAe : va_A [(x, .inr (5, [.ref a1, .ref a2, .ref a3, .ref a4])), (a1, wT tC 5 fs), (q, .inr (4, [.int ow, .int 1, .ref f, .int 0, .int (-1), .null, .int (-1), .null])), (f, .inr (3, [.ref e1, .ref e2, .int 5, .int 0])), (e1, wI tC 0 z1)] s.heap.size = A at hD hE ⊢
  have hA : ∀ q : Nat, s.heap.size ≤ q → A q := fun q h => by rw [← hAe]; exact Or.inr h
  have hS : va_S A s.heap s.heap [] := va_S.rf
  have hP : va_P D vwCl [(x, .inr (5, [.ref a1, .ref a2, .ref a3, .ref a4])), (a1, wT tC 5 fs), (q, .inr (4, [.int ow, .int 1, .ref f, .int 0, .int (-1), .null, .int (-1), .null])), (f, .inr (3, [.ref e1, .ref e2, .int 5, .int 0])), (e1, wI tC 0 z1)] s.heap := hP
  have hl := lv_entry ([.ref x, .int p0]) (n := 2) (Nat.le_of_ble_eq_true rfl)
  rw [lg_entry_eq]
  generalize (lg_sl ([.ref x, .int p0]) ++ List.replicate (2 - (lg_sl ([.ref x, .int p0])).length) Slot.unset).toArray = ls at hl ⊢
  have hl : lv_has ls 2 [(0, .ref x), (1, .int p0)] := hl
  have w_0 := hts (.initialized RX2) (by decide +kernel)
  have w_1 := hts (.instanceMethod yX2_length) (by decide +kernel)
  have w_2 := hts (.selects RX2 yX2_length yX2_length) (by decide +kernel)
  refine lv_aload_n hx hb dX4_count_0 rfl (lv_at hl 0 rfl) ?_
  refine lv_iload_n hx hb dX4_count_1 rfl (lv_at hl 1 rfl) ?_
  have hPc := hP.sub (ws' := [(x, .inr (5, [.ref a1, .ref a2, .ref a3, .ref a4])), (a1, wT tC 5 fs)]) [0, 1] rfl
  have hDc := hD.sub (ws' := [(x, .inr (5, [.ref a1, .ref a2, .ref a3, .ref a4])), (a1, wT tC 5 fs)]) [0, 1] (by decide) rfl
  have hFc := va_free (wc := [(x, .inr (5, [.ref a1, .ref a2, .ref a3, .ref a4])), (a1, wT tC 5 fs)]) hD hS hA [0, 1] rfl
  refine vx_callr (vx_runV (As := [.int p0]) (rest := []) ⟨hx, hb, hml, hown, hts⟩ (c_X4_stationAt l hlt D tC dz s.heap.size x a1 a2 a3 a4 fs p0 q hq) (cwV 1 hts gX4_count_X4_stationAt rfl rfl rfl (by decide +kernel) ⟨Nat.le_of_ble_eq_true rfl, Nat.le_of_ble_eq_true rfl⟩) ⟨pB_blind, va_recv hK hPc (ci := 5) (q0 := 0) rfl rfl, pB_at hPc hDc hK hN hE hS hFc⟩ rfl rfl hl.1 rfl (lv_room (Nat.le_of_ble_eq_true rfl)) dX4_count_2 ⟨Nat.le_of_ble_eq_true rfl, Nat.le_of_ble_eq_true rfl⟩) hS (fun q _ h => hFc q h) hFc (fun q _ h => hFc q h) (fun E ce q9 u t H1 locs ht hvm hpx hPE hz1 hk1 hS hce hcv hcl => ?_) (fun u r1 t H1 locs ht hvm hw hB hz1 hk1 hS => ?_)
  · skip
    exact vx_out (fun x h => (hnx x h).elim) hlocks hce hcv hcl (fun t9 h9 _ => ⟨(), trivial, hPE, hS.F h9⟩) hS.2.2 (Nat.le_of_ble_eq_true rfl) (Nat.le_of_ble_eq_true rfl)
  · skip
    obtain ⟨k_1, k_2, hP1, _, hD1⟩ := hB
    have hw_3 := hw
    rw [ht] at hP1
    obtain ⟨hP, hD⟩ := va_join (wr := [(q, .inr (4, [.int ow, .int 1, .ref f, .int 0, .int (-1), .null, .int (-1), .null])), (f, .inr (3, [.ref e1, .ref e2, .int 5, .int 0])), (e1, wI tC 0 z1)]) (w1 := [(x, .inr (5, [.ref a1, .ref a2, .ref a3, .ref a4])), (a1, wT tC 5 fs)]) hP hD [0, 1] [2, 3, 4] rfl rfl (by decide) (by decide) hk1 hFc hP1 hD1
    generalize H1 = H at hP hS ⊢
    have hP : va_P D vwCl [(q, .inr (4, [.int ow, .int 1, .ref f, .int 0, .int (-1), .null, .int (-1), .null])), (f, .inr (3, [.ref e1, .ref e2, .int 5, .int 0])), (e1, wI tC 0 z1), (x, .inr (5, [.ref a1, .ref a2, .ref a3, .ref a4])), (a1, wT tC 5 fs)] H := hP
    have hD : va_D A [(q, .inr (4, [.int ow, .int 1, .ref f, .int 0, .int (-1), .null, .int (-1), .null])), (f, .inr (3, [.ref e1, .ref e2, .int 5, .int 0])), (e1, wI tC 0 z1), (x, .inr (5, [.ref a1, .ref a2, .ref a3, .ref a4])), (a1, wT tC 5 fs)] := hD
    refine W.widen (k := 1) (n := 6) (by omega) (by omega) ?_
    rw [k_1]
    refine va_getN (host := "NoticeStations") (D := D) (ci := 4) (v := .ref f) (C := RX3) (T := TX3) (N := 8) hx hb hts in_X4_count_X3 hown hK hP 0 rfl rfl 2 (by decide) (va_Nw.use rfl (hN.1 (.fieldLinkNest "NoticeStations" 61 "NoticeStations$Station" "stored" "LNoticeStations$Standing;" "NoticeStations") (by decide +kernel))) (fun _ h9 => h9) rfl dX4_count_5 ?_
    have hPc := hP.sub (ws' := [(f, .inr (3, [.ref e1, .ref e2, .int 5, .int 0])), (e1, wI tC 0 z1)]) [1, 2] rfl
    have hDc := hD.sub (ws' := [(f, .inr (3, [.ref e1, .ref e2, .int 5, .int 0])), (e1, wI tC 0 z1)]) [1, 2] (by decide) rfl
    have hFc := va_free (wc := [(f, .inr (3, [.ref e1, .ref e2, .int 5, .int 0])), (e1, wI tC 0 z1)]) hD hS hA [1, 2] rfl
    refine va_calli (va_runVN (As := []) (rest := []) ⟨hx, hb, hml, hown, hts⟩ (c_X2_length l hlt D tC dz H.size f e1 e2 z1 ) ⟨(va_cnB (host := "NoticeStations") 0 hts gX4_count_X2_length_n107 rfl rfl rfl (hN.1 (.methodLinkNest "NoticeStations" 107 ⟨"NoticeStations$Standing", "length", "()I"⟩ "NoticeStations") (by decide +kernel)) w_0 (by decide +kernel) ⟨Nat.le_of_ble_eq_true rfl, Nat.le_of_ble_eq_true rfl⟩), w_1, w_2⟩ ⟨pB_blind, va_recv hK hPc (ci := 3) (q0 := 0) rfl rfl, pB_at hPc hDc hK hN hE hS hFc⟩ rfl rfl hl.1 rfl (lv_room (Nat.le_of_ble_eq_true rfl)) dX4_count_8 ⟨Nat.le_of_ble_eq_true rfl, Nat.le_of_ble_eq_true rfl⟩) hS (fun q _ h => hFc q h) hFc (fun r_4 u t H1 locs ht hvm hw hB hz1 hk1 hS => ?_)
    obtain ⟨hP1, _, hD1⟩ := hB
    have hw_5 := hw
    rw [ht] at hP1
    obtain ⟨hP, hD⟩ := va_join (wr := [(q, .inr (4, [.int ow, .int 1, .ref f, .int 0, .int (-1), .null, .int (-1), .null])), (x, .inr (5, [.ref a1, .ref a2, .ref a3, .ref a4])), (a1, wT tC 5 fs)]) (w1 := [(f, .inr (3, [.ref e1, .ref e2, .int 5, .int 0])), (e1, wI tC 0 z1)]) hP hD [1, 2] [0, 3, 4] rfl rfl (by decide) (by decide) hk1 hFc hP1 hD1
    generalize H1 = H at hP hS ⊢
    have hP : va_P D vwCl [(q, .inr (4, [.int ow, .int 1, .ref f, .int 0, .int (-1), .null, .int (-1), .null])), (x, .inr (5, [.ref a1, .ref a2, .ref a3, .ref a4])), (a1, wT tC 5 fs), (f, .inr (3, [.ref e1, .ref e2, .int 5, .int 0])), (e1, wI tC 0 z1)] H := hP
    have hD : va_D A [(q, .inr (4, [.int ow, .int 1, .ref f, .int 0, .int (-1), .null, .int (-1), .null])), (x, .inr (5, [.ref a1, .ref a2, .ref a3, .ref a4])), (a1, wT tC 5 fs), (f, .inr (3, [.ref e1, .ref e2, .int 5, .int 0])), (e1, wI tC 0 z1)] := hD
    have hP9 := hP.sub (ws' := []) [] rfl
    have hD9 := hD.sub (ws' := []) [] (by decide) rfl
    refine W.widen (k := 1) (n := 6) (by omega) (by omega) ?_
    exact vx_ret (W.iret (v := r_4) hx hb hr (fun t ht hW => ⟨⟨r_4, (), rfl, ⟨hw_5, k_2⟩, (by rw [ht]; exact hP9), va_K.moved hW.alike hK, hD9⟩, hS.F ht⟩) hS.2.2 dX4_count_11 hlocks)
end
section
set_option maxRecDepth 100000 in
theorem dJxa1e45_init_da8c8_0 : decode cJxa1e45_init_da8c8 0 = .ok (.aload_n 0, 1) := by decide +kernel
set_option maxRecDepth 100000 in
theorem dJxa1e45_init_da8c8_1 : decode cJxa1e45_init_da8c8 1 = .ok (.invokespecial 1, 3) := by decide +kernel
set_option maxRecDepth 100000 in
theorem dJxa1e45_init_da8c8_4 : decode cJxa1e45_init_da8c8 4 = .ok (.return_, 1) := by decide +kernel
set_option maxRecDepth 100000 in
theorem dJxc12de_init_da8c8_0 : decode cJxc12de_init_da8c8 0 = .ok (.aload_n 0, 1) := by decide +kernel
set_option maxRecDepth 100000 in
theorem dJxc12de_init_da8c8_1 : decode cJxc12de_init_da8c8 1 = .ok (.invokespecial 1, 3) := by decide +kernel
set_option maxRecDepth 20000 in
theorem ggJxc12de_init_da8c8_Jxa1e45_init_da8c8 : GoodIn wsJxc12de_init_da8c8 wsJxa1e45_init_da8c8 := goodIn_r _ [5, 6, 7, 8] (by decide +kernel) (by decide +kernel)
set_option maxRecDepth 20000 in
theorem gJxc12de_init_da8c8_Jxa1e45_init_da8c8 : GoodIn wsJxc12de_init_da8c8 (wsJxa1e45_init_da8c8) := ggJxc12de_init_da8c8_Jxa1e45_init_da8c8
set_option maxRecDepth 100000 in
theorem dJxc12de_init_da8c8_4 : decode cJxc12de_init_da8c8 4 = .ok (.aload_n 0, 1) := by decide +kernel
set_option maxRecDepth 100000 in
theorem dJxc12de_init_da8c8_5 : decode cJxc12de_init_da8c8 5 = .ok (.iconst 0, 1) := by decide +kernel
set_option maxRecDepth 100000 in
theorem dJxc12de_init_da8c8_6 : decode cJxc12de_init_da8c8 6 = .ok (.putfield 7, 3) := by decide +kernel
set_option maxRecDepth 100000 in
theorem in_Jxc12de_init_da8c8_Jx4a65c : ∀ w ∈ wsJx4a65c0, w ∈ wsJxc12de_init_da8c8 := fun _ h => List.mem_cons_of_mem _ (List.mem_append_right _ h)
set_option maxRecDepth 100000 in
theorem dJxc12de_init_da8c8_9 : decode cJxc12de_init_da8c8 9 = .ok (.return_, 1) := by decide +kernel
set_option maxRecDepth 100000 in
theorem dJx4a65c_init_da8c8_0 : decode cJx4a65c_init_da8c8 0 = .ok (.aload_n 0, 1) := by decide +kernel
set_option maxRecDepth 100000 in
theorem dJx4a65c_init_da8c8_1 : decode cJx4a65c_init_da8c8 1 = .ok (.invokespecial 1, 3) := by decide +kernel
set_option maxRecDepth 20000 in
theorem ggJx4a65c_init_da8c8_Jxc12de_init_da8c8 : GoodIn wsJx4a65c_init_da8c8 wsJxc12de_init_da8c8 := goodIn_r _ [6, 7, 8, 9, 10, 11, 12, 13, 14, 15, 16, 17] (by decide +kernel) (by decide +kernel)
set_option maxRecDepth 20000 in
theorem gJx4a65c_init_da8c8_Jxc12de_init_da8c8 : GoodIn wsJx4a65c_init_da8c8 (wsJxc12de_init_da8c8) := ggJx4a65c_init_da8c8_Jxc12de_init_da8c8
set_option maxRecDepth 100000 in
theorem dJx4a65c_init_da8c8_4 : decode cJx4a65c_init_da8c8 4 = .ok (.aload_n 0, 1) := by decide +kernel
set_option maxRecDepth 100000 in
theorem dJx4a65c_init_da8c8_5 : decode cJx4a65c_init_da8c8 5 = .ok (.getstatic 39, 3) := by decide +kernel
set_option maxRecDepth 100000 in
theorem dJx4a65c_init_da8c8_8 : decode cJx4a65c_init_da8c8 8 = .ok (.putfield 9, 3) := by decide +kernel
set_option maxRecDepth 100000 in
theorem in_Jx4a65c_init_da8c8_Jx4a65c : ∀ w ∈ wsJx4a65c0, w ∈ wsJx4a65c_init_da8c8 := fun _ h => List.mem_cons_of_mem _ (List.mem_append_right _ h)
set_option maxRecDepth 100000 in
theorem dJx4a65c_init_da8c8_11 : decode cJx4a65c_init_da8c8 11 = .ok (.return_, 1) := by decide +kernel
set_option maxRecDepth 100000 in
theorem dX2_init_0 : decode cX2_init 0 = .ok (.aload_n 0, 1) := by decide +kernel
set_option maxRecDepth 100000 in
theorem dX2_init_1 : decode cX2_init 1 = .ok (.invokespecial 1, 3) := by decide +kernel
set_option maxRecDepth 100000 in
theorem dX2_init_4 : decode cX2_init 4 = .ok (.aload_n 0, 1) := by decide +kernel
set_option maxRecDepth 100000 in
theorem dX2_init_5 : decode cX2_init 5 = .ok (.aload_n 1, 1) := by decide +kernel
set_option maxRecDepth 100000 in
theorem dX2_init_6 : decode cX2_init 6 = .ok (.putfield 7, 3) := by decide +kernel
set_option maxRecDepth 100000 in
theorem in_X2_init_X2 : ∀ w ∈ wsX20, w ∈ wsX2_init := fun _ h => List.mem_cons_of_mem _ (List.mem_append_right _ h)
set_option maxRecDepth 100000 in
theorem dX2_init_9 : decode cX2_init 9 = .ok (.aload_n 0, 1) := by decide +kernel
set_option maxRecDepth 100000 in
theorem dX2_init_10 : decode cX2_init 10 = .ok (.aload_n 2, 1) := by decide +kernel
set_option maxRecDepth 100000 in
theorem dX2_init_11 : decode cX2_init 11 = .ok (.putfield 13, 3) := by decide +kernel
set_option maxRecDepth 100000 in
theorem dX2_init_14 : decode cX2_init 14 = .ok (.aload_n 0, 1) := by decide +kernel
set_option maxRecDepth 100000 in
theorem dX2_init_15 : decode cX2_init 15 = .ok (.iload_n 3, 1) := by decide +kernel
set_option maxRecDepth 100000 in
theorem dX2_init_16 : decode cX2_init 16 = .ok (.putfield 16, 3) := by decide +kernel
set_option maxRecDepth 100000 in
theorem dX2_init_19 : decode cX2_init 19 = .ok (.aload_n 0, 1) := by decide +kernel
set_option maxRecDepth 100000 in
theorem dX2_init_20 : decode cX2_init 20 = .ok (.iload 4, 2) := by decide +kernel
set_option maxRecDepth 100000 in
theorem dX2_init_22 : decode cX2_init 22 = .ok (.putfield 20, 3) := by decide +kernel
set_option maxRecDepth 100000 in
theorem dX2_init_25 : decode cX2_init 25 = .ok (.return_, 1) := by decide +kernel
set_option maxRecDepth 100000 in
theorem dX3_init_0 : decode cX3_init 0 = .ok (.aload_n 0, 1) := by decide +kernel
set_option maxRecDepth 100000 in
theorem dX3_init_1 : decode cX3_init 1 = .ok (.invokespecial 3, 3) := by decide +kernel
set_option maxRecDepth 100000 in
theorem dX3_init_4 : decode cX3_init 4 = .ok (.aload_n 0, 1) := by decide +kernel
set_option maxRecDepth 100000 in
theorem dX3_init_5 : decode cX3_init 5 = .ok (.iconst 1, 1) := by decide +kernel
set_option maxRecDepth 100000 in
theorem dX3_init_6 : decode cX3_init 6 = .ok (.putfield 9, 3) := by decide +kernel
set_option maxRecDepth 100000 in
theorem in_X3_init_X3 : ∀ w ∈ wsX30, w ∈ wsX3_init := fun _ h => List.mem_cons_of_mem _ (List.mem_append_right _ h)
set_option maxRecDepth 100000 in
theorem dX3_init_9 : decode cX3_init 9 = .ok (.aload_n 0, 1) := by decide +kernel
set_option maxRecDepth 100000 in
theorem dX3_init_10 : decode cX3_init 10 = .ok (.iconst 0, 1) := by decide +kernel
set_option maxRecDepth 100000 in
theorem dX3_init_11 : decode cX3_init 11 = .ok (.putfield 15, 3) := by decide +kernel
set_option maxRecDepth 100000 in
theorem dX3_init_14 : decode cX3_init 14 = .ok (.aload_n 0, 1) := by decide +kernel
set_option maxRecDepth 100000 in
theorem dX3_init_15 : decode cX3_init 15 = .ok (.iconst (-1), 1) := by decide +kernel
set_option maxRecDepth 100000 in
theorem dX3_init_16 : decode cX3_init 16 = .ok (.putfield 19, 3) := by decide +kernel
set_option maxRecDepth 100000 in
theorem dX3_init_19 : decode cX3_init 19 = .ok (.aload_n 0, 1) := by decide +kernel
set_option maxRecDepth 100000 in
theorem dX3_init_20 : decode cX3_init 20 = .ok (.aconst_null, 1) := by decide +kernel
set_option maxRecDepth 100000 in
theorem dX3_init_21 : decode cX3_init 21 = .ok (.putfield 22, 3) := by decide +kernel
set_option maxRecDepth 100000 in
theorem dX3_init_24 : decode cX3_init 24 = .ok (.aload_n 0, 1) := by decide +kernel
set_option maxRecDepth 100000 in
theorem dX3_init_25 : decode cX3_init 25 = .ok (.iconst (-1), 1) := by decide +kernel
set_option maxRecDepth 100000 in
theorem dX3_init_26 : decode cX3_init 26 = .ok (.putfield 26, 3) := by decide +kernel
set_option maxRecDepth 100000 in
theorem dX3_init_29 : decode cX3_init 29 = .ok (.aload_n 0, 1) := by decide +kernel
set_option maxRecDepth 100000 in
theorem dX3_init_30 : decode cX3_init 30 = .ok (.aconst_null, 1) := by decide +kernel
set_option maxRecDepth 100000 in
theorem dX3_init_31 : decode cX3_init 31 = .ok (.putfield 29, 3) := by decide +kernel
set_option maxRecDepth 100000 in
theorem dX3_init_34 : decode cX3_init 34 = .ok (.aload_n 0, 1) := by decide +kernel
set_option maxRecDepth 100000 in
theorem dX3_init_35 : decode cX3_init 35 = .ok (.iload_n 1, 1) := by decide +kernel
set_option maxRecDepth 100000 in
theorem dX3_init_36 : decode cX3_init 36 = .ok (.putfield 33, 3) := by decide +kernel
set_option maxRecDepth 100000 in
theorem dX3_init_39 : decode cX3_init 39 = .ok (.aload_n 0, 1) := by decide +kernel
set_option maxRecDepth 100000 in
theorem dX3_init_40 : decode cX3_init 40 = .ok (.aload_n 2, 1) := by decide +kernel
set_option maxRecDepth 100000 in
theorem dX3_init_41 : decode cX3_init 41 = .ok (.putfield 36, 3) := by decide +kernel
set_option maxRecDepth 100000 in
theorem dX3_init_44 : decode cX3_init 44 = .ok (.return_, 1) := by decide +kernel
set_option maxRecDepth 100000 in
theorem dX0_init_0 : decode cX0_init 0 = .ok (.aload_n 0, 1) := by decide +kernel
set_option maxRecDepth 100000 in
theorem dX0_init_1 : decode cX0_init 1 = .ok (.invokespecial 1, 3) := by decide +kernel
set_option maxRecDepth 100000 in
theorem dX0_init_4 : decode cX0_init 4 = .ok (.aload_n 0, 1) := by decide +kernel
set_option maxRecDepth 100000 in
theorem dX0_init_5 : decode cX0_init 5 = .ok (.iload_n 1, 1) := by decide +kernel
set_option maxRecDepth 100000 in
theorem dX0_init_6 : decode cX0_init 6 = .ok (.putfield 7, 3) := by decide +kernel
set_option maxRecDepth 100000 in
theorem in_X0_init_X0 : ∀ w ∈ wsX00, w ∈ wsX0_init := fun _ h => List.mem_cons_of_mem _ (List.mem_append_right _ h)
set_option maxRecDepth 100000 in
theorem dX0_init_9 : decode cX0_init 9 = .ok (.aload_n 0, 1) := by decide +kernel
set_option maxRecDepth 100000 in
theorem dX0_init_10 : decode cX0_init 10 = .ok (.iload_n 2, 1) := by decide +kernel
set_option maxRecDepth 100000 in
theorem dX0_init_11 : decode cX0_init 11 = .ok (.putfield 13, 3) := by decide +kernel
set_option maxRecDepth 100000 in
theorem dX0_init_14 : decode cX0_init 14 = .ok (.aload_n 0, 1) := by decide +kernel
set_option maxRecDepth 100000 in
theorem dX0_init_15 : decode cX0_init 15 = .ok (.iload_n 3, 1) := by decide +kernel
set_option maxRecDepth 100000 in
theorem dX0_init_16 : decode cX0_init 16 = .ok (.putfield 16, 3) := by decide +kernel
set_option maxRecDepth 100000 in
theorem dX0_init_19 : decode cX0_init 19 = .ok (.aload_n 0, 1) := by decide +kernel
set_option maxRecDepth 100000 in
theorem dX0_init_20 : decode cX0_init 20 = .ok (.iload 4, 2) := by decide +kernel
set_option maxRecDepth 100000 in
theorem dX0_init_22 : decode cX0_init 22 = .ok (.putfield 19, 3) := by decide +kernel
set_option maxRecDepth 100000 in
theorem dX0_init_25 : decode cX0_init 25 = .ok (.aload_n 0, 1) := by decide +kernel
set_option maxRecDepth 100000 in
theorem dX0_init_26 : decode cX0_init 26 = .ok (.aload 5, 2) := by decide +kernel
set_option maxRecDepth 100000 in
theorem dX0_init_28 : decode cX0_init 28 = .ok (.putfield 22, 3) := by decide +kernel
set_option maxRecDepth 100000 in
theorem dX0_init_31 : decode cX0_init 31 = .ok (.return_, 1) := by decide +kernel
set_option maxRecDepth 100000 in
theorem dX1_init_0 : decode cX1_init 0 = .ok (.aload_n 0, 1) := by decide +kernel
set_option maxRecDepth 100000 in
theorem dX1_init_1 : decode cX1_init 1 = .ok (.invokespecial 3, 3) := by decide +kernel
set_option maxRecDepth 100000 in
theorem dX1_init_4 : decode cX1_init 4 = .ok (.aload_n 0, 1) := by decide +kernel
set_option maxRecDepth 100000 in
theorem dX1_init_5 : decode cX1_init 5 = .ok (.iconst 5, 1) := by decide +kernel
set_option maxRecDepth 100000 in
theorem dX1_init_6 : decode cX1_init 6 = .ok (.anewarray 9, 3) := by decide +kernel
set_option maxRecDepth 100000 in
theorem dX1_init_9 : decode cX1_init 9 = .ok (.putfield 11, 3) := by decide +kernel
set_option maxRecDepth 100000 in
theorem in_X1_init_X1 : ∀ w ∈ wsX10, w ∈ wsX1_init := fun _ h => List.mem_cons_of_mem _ (List.mem_append_right _ h)
set_option maxRecDepth 100000 in
theorem dX1_init_12 : decode cX1_init 12 = .ok (.aload_n 0, 1) := by decide +kernel
set_option maxRecDepth 100000 in
theorem dX1_init_13 : decode cX1_init 13 = .ok (.iconst 5, 1) := by decide +kernel
set_option maxRecDepth 100000 in
theorem dX1_init_14 : decode cX1_init 14 = .ok (.newarray .boolean, 2) := by decide +kernel
set_option maxRecDepth 100000 in
theorem dX1_init_16 : decode cX1_init 16 = .ok (.putfield 17, 3) := by decide +kernel
set_option maxRecDepth 100000 in
theorem dX1_init_19 : decode cX1_init 19 = .ok (.aload_n 0, 1) := by decide +kernel
set_option maxRecDepth 100000 in
theorem dX1_init_20 : decode cX1_init 20 = .ok (.aconst_null, 1) := by decide +kernel
set_option maxRecDepth 100000 in
theorem dX1_init_21 : decode cX1_init 21 = .ok (.putfield 21, 3) := by decide +kernel
set_option maxRecDepth 100000 in
theorem dX1_init_24 : decode cX1_init 24 = .ok (.aload_n 0, 1) := by decide +kernel
set_option maxRecDepth 100000 in
theorem dX1_init_25 : decode cX1_init 25 = .ok (.iload_n 1, 1) := by decide +kernel
set_option maxRecDepth 100000 in
theorem dX1_init_26 : decode cX1_init 26 = .ok (.putfield 25, 3) := by decide +kernel
set_option maxRecDepth 100000 in
theorem dX1_init_29 : decode cX1_init 29 = .ok (.aload_n 0, 1) := by decide +kernel
set_option maxRecDepth 100000 in
theorem dX1_init_30 : decode cX1_init 30 = .ok (.iload_n 2, 1) := by decide +kernel
set_option maxRecDepth 100000 in
theorem dX1_init_31 : decode cX1_init 31 = .ok (.putfield 29, 3) := by decide +kernel
set_option maxRecDepth 100000 in
theorem dX1_init_34 : decode cX1_init 34 = .ok (.return_, 1) := by decide +kernel
set_option maxRecDepth 100000 in
theorem dX3_forgetWrite_0 : decode cX3_forgetWrite 0 = .ok (.aload_n 0, 1) := by decide +kernel
set_option maxRecDepth 100000 in
theorem dX3_forgetWrite_1 : decode cX3_forgetWrite 1 = .ok (.iconst (-1), 1) := by decide +kernel
set_option maxRecDepth 100000 in
theorem dX3_forgetWrite_2 : decode cX3_forgetWrite 2 = .ok (.putfield 26, 3) := by decide +kernel
set_option maxRecDepth 100000 in
theorem in_X3_forgetWrite_X3 : ∀ w ∈ wsX30, w ∈ wsX3_forgetWrite := fun _ h => List.mem_cons_of_mem _ (List.mem_append_right _ h)
set_option maxRecDepth 100000 in
theorem dX3_forgetWrite_5 : decode cX3_forgetWrite 5 = .ok (.aload_n 0, 1) := by decide +kernel
set_option maxRecDepth 100000 in
theorem dX3_forgetWrite_6 : decode cX3_forgetWrite 6 = .ok (.aconst_null, 1) := by decide +kernel
set_option maxRecDepth 100000 in
theorem dX3_forgetWrite_7 : decode cX3_forgetWrite 7 = .ok (.putfield 29, 3) := by decide +kernel
set_option maxRecDepth 100000 in
theorem dX3_forgetWrite_10 : decode cX3_forgetWrite 10 = .ok (.return_, 1) := by decide +kernel
set_option maxRecDepth 100000 in
theorem dX1_isCollecting_0 : decode cX1_isCollecting 0 = .ok (.aload_n 0, 1) := by decide +kernel
set_option maxRecDepth 100000 in
theorem dX1_isCollecting_1 : decode cX1_isCollecting 1 = .ok (.getfield 21, 3) := by decide +kernel
set_option maxRecDepth 100000 in
theorem in_X1_isCollecting_X1 : ∀ w ∈ wsX10, w ∈ wsX1_isCollecting := fun _ h => List.mem_cons_of_mem _ (List.mem_append_right _ h)
set_option maxRecDepth 100000 in
theorem dX1_isCollecting_4 : decode cX1_isCollecting 4 = .ok (.ifnonnull 7, 3) := by decide +kernel
set_option maxRecDepth 100000 in
theorem dX1_isCollecting_7 : decode cX1_isCollecting 7 = .ok (.iconst 1, 1) := by decide +kernel
set_option maxRecDepth 100000 in
theorem dX1_isCollecting_8 : decode cX1_isCollecting 8 = .ok (.goto 4, 3) := by decide +kernel
set_option maxRecDepth 100000 in
theorem dX1_isCollecting_12 : decode cX1_isCollecting 12 = .ok (.ireturn, 1) := by decide +kernel
set_option maxRecDepth 100000 in
theorem dJx4a65c_size_8abf5_0 : decode cJx4a65c_size_8abf5 0 = .ok (.aload_n 0, 1) := by decide +kernel
set_option maxRecDepth 100000 in
theorem dJx4a65c_size_8abf5_1 : decode cJx4a65c_size_8abf5 1 = .ok (.getfield 48, 3) := by decide +kernel
set_option maxRecDepth 100000 in
theorem in_Jx4a65c_size_8abf5_Jx4a65c : ∀ w ∈ wsJx4a65c0, w ∈ wsJx4a65c_size_8abf5 := fun _ h => List.mem_cons_of_mem _ (List.mem_append_right _ h)
set_option maxRecDepth 100000 in
theorem dJx4a65c_size_8abf5_4 : decode cJx4a65c_size_8abf5 4 = .ok (.ireturn, 1) := by decide +kernel
set_option maxHeartbeats 4000000 in
set_option maxRecDepth 100000 in
theorem c_Jxa1e45_init_da8c8 (l : Launch) (hlt : l.stackTraces = false) (D : va_G) (tC : Nat → ClassId) (dz sz : Nat) (a3 : Nat) (md : Int32)  : Met l yJxa1e45_init_da8c8 wsJxa1e45_init_da8c8 ({ frames := 1, cells := 0, slots := 0, locals := 12 }) (va_Pc [.ref a3] (pB D tC dz [(a3, .inr (0, [.int md, .null, .int 0]))] sz)) (va_Qv (fun (_ : Unit) => True) (fun (_ : Unit) t => pA D tC (va_A [(a3, .inr (0, [.int md, .null, .int 0]))] sz) [(a3, .inr (0, [.int md, .null, .int 0]))] t) (va_A [(a3, .inr (0, [.int md, .null, .int 0]))] sz)) 0 0 (va_A [(a3, .inr (0, [.int md, .null, .int 0]))] sz) := by
  refine Met.ofW (cc := cJxa1e45_init_da8c8) (maxL := 1) (ret := none) (by decide) rfl ?_
  intro p e s m args below meth c s₁ B hml hv
  obtain ⟨rfl, hsz, hP, hK, hD0, hN, hE⟩ := hv
  have hx := B.exec
  have hb := B.bytes
  have hr := B.returns
  have hts := atoms_spec (ws := wsJxa1e45_init_da8c8) B.pre
  have hown : s.vm.findClass RJxa1e45 = some m.cls := findClass_of_methodNamed B.named
  have hlocks := B.notSynchronized
  have hin : meth.name = "<init>" := (name_of_methodNamed B.named B.method).1
  subst hsz
  have hD := hD0.self (sz := s.heap.size)
  generalize hAe : va_A [(a3, .inr (0, [.int md, .null, .int 0]))] s.heap.size = A at hD hE ⊢
  have hA : ∀ q : Nat, s.heap.size ≤ q → A q := fun q h => by rw [← hAe]; exact Or.inr h
  have hS : va_S A s.heap s.heap [] := va_S.rf
  have hP : va_P D vwCl [(a3, .inr (0, [.int md, .null, .int 0]))] s.heap := hP
  have hl := lv_entry ([.ref a3]) (n := 1) (Nat.le_of_ble_eq_true rfl)
  rw [lg_entry_eq]
  generalize (lg_sl ([.ref a3]) ++ List.replicate (1 - (lg_sl ([.ref a3])).length) Slot.unset).toArray = ls at hl ⊢
  have hl : lv_has ls 1 [(0, .ref a3)] := hl
  have w_0 := hts (.methodLink RJxa1e45 1 objectInit) (by decide +kernel)
  have w_1 := hts (.instanceMethod objectInit) (by decide +kernel)
  have w_2 := hts (.code objectInit ⟨#[0xb1]⟩ 1 none) (by decide +kernel)
  refine lv_aload_n hx hb dJxa1e45_init_da8c8_0 rfl (lv_at hl 0 rfl) ?_
  refine W.objInit hx hb hown w_0 w_1 w_2 rfl (by rw [hml]; exact hl.1) rfl dJxa1e45_init_da8c8_1 (Nat.le_of_ble_eq_true rfl) (Nat.le_of_ble_eq_true rfl) ?_
  refine W.eq (g2 := F0 m 4 ls []) rfl ?_
  have hP9 := hP.sub (ws' := [(a3, .inr (0, [.int md, .null, .int 0]))]) [0] rfl
  have hD9 := hD.sub (ws' := [(a3, .inr (0, [.int md, .null, .int 0]))]) [0] (by decide) rfl
  refine W.widen (k := 0) (n := 0) (by omega) (by omega) ?_
  exact W.vret hx hb hr (fun t ht hW => ⟨⟨(), rfl, trivial, (by rw [ht]; exact hP9), va_K.moved hW.alike hK, hD9⟩, hS.F ht⟩) hS.2.2 dJxa1e45_init_da8c8_4 hlocks
set_option maxHeartbeats 4000000 in
set_option maxRecDepth 100000 in
theorem c_Jxc12de_init_da8c8 (l : Launch) (hlt : l.stackTraces = false) (D : va_G) (tC : Nat → ClassId) (dz sz : Nat) (a3 : Nat) (md : Int32)  : Met l yJxc12de_init_da8c8 wsJxc12de_init_da8c8 ({ frames := 2, cells := 0, slots := 0, locals := 32 }) (va_Pc [.ref a3] (pB D tC dz [(a3, .inr (0, [.int md, .null, .int 0]))] sz)) (va_Qv (fun (_ : Unit) => True) (fun (_ : Unit) t => pA D tC (va_A [(a3, .inr (0, [.int md, .null, .int 0]))] sz) [(a3, .inr (0, [.int 0, .null, .int 0]))] t) (va_A [(a3, .inr (0, [.int md, .null, .int 0]))] sz)) 0 0 (va_A [(a3, .inr (0, [.int md, .null, .int 0]))] sz) := by
  refine Met.ofW (cc := cJxc12de_init_da8c8) (maxL := 1) (ret := none) (by decide) rfl ?_
  intro p e s m args below meth c s₁ B hml hv
  obtain ⟨rfl, hsz, hP, hK, hD0, hN, hE⟩ := hv
  have hx := B.exec
  have hb := B.bytes
  have hr := B.returns
  have hts := atoms_spec (ws := wsJxc12de_init_da8c8) B.pre
  have hown : s.vm.findClass RJxc12de = some m.cls := findClass_of_methodNamed B.named
  have hlocks := B.notSynchronized
  have hin : meth.name = "<init>" := (name_of_methodNamed B.named B.method).1
  subst hsz
  have hD := hD0.self (sz := s.heap.size)
  generalize hAe : va_A [(a3, .inr (0, [.int md, .null, .int 0]))] s.heap.size = A at hD hE ⊢
  have hA : ∀ q : Nat, s.heap.size ≤ q → A q := fun q h => by rw [← hAe]; exact Or.inr h
  have hS : va_S A s.heap s.heap [] := va_S.rf
  have hP : va_P D vwCl [(a3, .inr (0, [.int md, .null, .int 0]))] s.heap := hP
  have hl := lv_entry ([.ref a3]) (n := 1) (Nat.le_of_ble_eq_true rfl)
  rw [lg_entry_eq]
  generalize (lg_sl ([.ref a3]) ++ List.replicate (1 - (lg_sl ([.ref a3])).length) Slot.unset).toArray = ls at hl ⊢
  have hl : lv_has ls 1 [(0, .ref a3)] := hl
  have w_0 := hts (.initialized RJxa1e45) (by decide +kernel)
  have w_1 := hts (.methodLink RJxc12de 1 yJxa1e45_init_da8c8) (by decide +kernel)
  have w_2 := hts (.instanceMethod yJxa1e45_init_da8c8) (by decide +kernel)
  have w_3 := hts (.fieldLink RJxc12de 7 "java/util/AbstractList" "modCount" "I") (by decide +kernel)
  refine lv_aload_n hx hb dJxc12de_init_da8c8_0 rfl (lv_at hl 0 rfl) ?_
  have hPc := hP.sub (ws' := [(a3, .inr (0, [.int md, .null, .int 0]))]) [0] rfl
  have hDc := hD.sub (ws' := [(a3, .inr (0, [.int md, .null, .int 0]))]) [0] (by decide) rfl
  have hFc := va_free (wc := [(a3, .inr (0, [.int md, .null, .int 0]))]) hD hS hA [0] rfl
  refine va_callv (va_runI (As := []) (rest := []) ⟨hx, hb, hml, hown, hts⟩ (c_Jxa1e45_init_da8c8 l hlt D tC dz s.heap.size a3 md ) (cwI 0 hts gJxc12de_init_da8c8_Jxa1e45_init_da8c8 rfl rfl rfl w_0 w_1 w_2 rfl (by decide +kernel) ⟨Nat.le_of_ble_eq_true rfl, Nat.le_of_ble_eq_true rfl⟩) ⟨pB_blind, pB_at hPc hDc hK hN hE hS hFc⟩ rfl rfl hl.1 rfl (lv_room (Nat.le_of_ble_eq_true rfl)) dJxc12de_init_da8c8_1 ⟨Nat.le_of_ble_eq_true rfl, Nat.le_of_ble_eq_true rfl⟩) hS (fun q _ h => hFc q h) hFc (fun u t H1 locs ht hvm hw hB hz1 hk1 hS => ?_)
  obtain ⟨hP1, _, hD1⟩ := hB
  have hw_2 := hw
  rw [ht] at hP1
  obtain ⟨hP, hD⟩ := va_join (wr := []) (w1 := [(a3, .inr (0, [.int md, .null, .int 0]))]) hP hD [0] [] rfl rfl (by decide) (by decide) hk1 hFc hP1 hD1
  generalize H1 = H at hP hS ⊢
  have hP : va_P D vwCl [(a3, .inr (0, [.int md, .null, .int 0]))] H := hP
  have hD : va_D A [(a3, .inr (0, [.int md, .null, .int 0]))] := hD
  refine lv_aload_n hx hb dJxc12de_init_da8c8_4 rfl (lv_at hl 0 rfl) ?_
  refine lv_iconst (v := 0) hx hb dJxc12de_init_da8c8_5 (by decide) ?_
  refine va_put (D := D) (ci := 0) (v := .int 0) (ty := .int) (C := RJx4a65c) (T := TJx4a65c) (N := 3) hx hb hts in_Jxc12de_init_da8c8_Jx4a65c tyJx4a65c tyJx4a65c_ok nmJx4a65c hown hK hP hD hS 0 rfl rfl 0 (by decide) w_3 (fun _ h9 => h9) rfl (by decide +kernel) (by first | rfl | decide) rfl (Nat.le_of_ble_eq_true rfl) dJxc12de_init_da8c8_6 (fun H locs hP hD hS => ?_)
  have hP : va_P D vwCl [(a3, .inr (0, [.int 0, .null, .int 0]))] H := hP
  have hD : va_D A [(a3, .inr (0, [.int 0, .null, .int 0]))] := hD
  have hP9 := hP.sub (ws' := [(a3, .inr (0, [.int 0, .null, .int 0]))]) [0] rfl
  have hD9 := hD.sub (ws' := [(a3, .inr (0, [.int 0, .null, .int 0]))]) [0] (by decide) rfl
  refine W.widen (k := 0) (n := 0) (by omega) (by omega) ?_
  exact W.vret hx hb hr (fun t ht hW => ⟨⟨(), rfl, trivial, (by rw [ht]; exact hP9), va_K.moved hW.alike hK, hD9⟩, hS.F ht⟩) hS.2.2 dJxc12de_init_da8c8_9 hlocks
set_option maxHeartbeats 4000000 in
set_option maxRecDepth 100000 in
theorem c_Jx4a65c_init_da8c8 (l : Launch) (hlt : l.stackTraces = false) (D : va_G) (tC : Nat → ClassId) (dz sz : Nat) (a3 : Nat) (md : Int32)  : Met l yJx4a65c_init_da8c8 wsJx4a65c_init_da8c8 ({ frames := 3, cells := 0, slots := 0, locals := 52 }) (va_Pc [.ref a3] (pB D tC dz [(a3, .inr (0, [.int md, .null, .int 0]))] sz)) (va_Qv (fun (_ : Unit) => True) (fun (_ : Unit) t => pA D tC (va_A [(a3, .inr (0, [.int md, .null, .int 0]))] sz) [(a3, .inr (0, [.int 0, .ref dz, .int 0]))] t) (va_A [(a3, .inr (0, [.int md, .null, .int 0]))] sz)) 0 0 (va_A [(a3, .inr (0, [.int md, .null, .int 0]))] sz) := by
  refine Met.ofW (cc := cJx4a65c_init_da8c8) (maxL := 1) (ret := none) (by decide) rfl ?_
  intro p e s m args below meth c s₁ B hml hv
  obtain ⟨rfl, hsz, hP, hK, hD0, hN, hE⟩ := hv
  have hx := B.exec
  have hb := B.bytes
  have hr := B.returns
  have hts := atoms_spec (ws := wsJx4a65c_init_da8c8) B.pre
  have hown : s.vm.findClass RJx4a65c = some m.cls := findClass_of_methodNamed B.named
  have hlocks := B.notSynchronized
  have hin : meth.name = "<init>" := (name_of_methodNamed B.named B.method).1
  subst hsz
  have hD := hD0.self (sz := s.heap.size)
  generalize hAe : va_A [(a3, .inr (0, [.int md, .null, .int 0]))] s.heap.size = A at hD hE ⊢
  have hA : ∀ q : Nat, s.heap.size ≤ q → A q := fun q h => by rw [← hAe]; exact Or.inr h
  have hS : va_S A s.heap s.heap [] := va_S.rf
  have hP : va_P D vwCl [(a3, .inr (0, [.int md, .null, .int 0]))] s.heap := hP
  have hl := lv_entry ([.ref a3]) (n := 1) (Nat.le_of_ble_eq_true rfl)
  rw [lg_entry_eq]
  generalize (lg_sl ([.ref a3]) ++ List.replicate (1 - (lg_sl ([.ref a3])).length) Slot.unset).toArray = ls at hl ⊢
  have hl : lv_has ls 1 [(0, .ref a3)] := hl
  have w_0 := hts (.initialized RJxc12de) (by decide +kernel)
  have w_1 := hts (.methodLink RJx4a65c 1 yJxc12de_init_da8c8) (by decide +kernel)
  have w_2 := hts (.instanceMethod yJxc12de_init_da8c8) (by decide +kernel)
  have w_3 := hts (.fieldLink RJx4a65c 39 "java/util/ArrayList" "DEFAULTCAPACITY_EMPTY_ELEMENTDATA" "[Ljava/lang/Object;") (by decide +kernel)
  have w_4 := hts (.fieldLink RJx4a65c 9 "java/util/ArrayList" "elementData" "[Ljava/lang/Object;") (by decide +kernel)
  refine lv_aload_n hx hb dJx4a65c_init_da8c8_0 rfl (lv_at hl 0 rfl) ?_
  have hPc := hP.sub (ws' := [(a3, .inr (0, [.int md, .null, .int 0]))]) [0] rfl
  have hDc := hD.sub (ws' := [(a3, .inr (0, [.int md, .null, .int 0]))]) [0] (by decide) rfl
  have hFc := va_free (wc := [(a3, .inr (0, [.int md, .null, .int 0]))]) hD hS hA [0] rfl
  refine va_callv (va_runI (As := []) (rest := []) ⟨hx, hb, hml, hown, hts⟩ (c_Jxc12de_init_da8c8 l hlt D tC dz s.heap.size a3 md ) (cwI 0 hts gJx4a65c_init_da8c8_Jxc12de_init_da8c8 rfl rfl rfl w_0 w_1 w_2 rfl (by decide +kernel) ⟨Nat.le_of_ble_eq_true rfl, Nat.le_of_ble_eq_true rfl⟩) ⟨pB_blind, pB_at hPc hDc hK hN hE hS hFc⟩ rfl rfl hl.1 rfl (lv_room (Nat.le_of_ble_eq_true rfl)) dJx4a65c_init_da8c8_1 ⟨Nat.le_of_ble_eq_true rfl, Nat.le_of_ble_eq_true rfl⟩) hS (fun q _ h => hFc q h) hFc (fun u t H1 locs ht hvm hw hB hz1 hk1 hS => ?_)
  obtain ⟨hP1, _, hD1⟩ := hB
  have hw_2 := hw
  rw [ht] at hP1
  obtain ⟨hP, hD⟩ := va_join (wr := []) (w1 := [(a3, .inr (0, [.int 0, .null, .int 0]))]) hP hD [0] [] rfl rfl (by decide) (by decide) hk1 hFc hP1 hD1
  generalize H1 = H at hP hS ⊢
  have hP : va_P D vwCl [(a3, .inr (0, [.int 0, .null, .int 0]))] H := hP
  have hD : va_D A [(a3, .inr (0, [.int 0, .null, .int 0]))] := hD
  refine lv_aload_n hx hb dJx4a65c_init_da8c8_4 rfl (lv_at hl 0 rfl) ?_
  refine va_gets hx hb hE.2.2.1 hS hown w_3 (fun _ h9 => h9) dJx4a65c_init_da8c8_5 ?_
  refine va_put (D := D) (ci := 0) (v := .ref dz) (ty := .array (.object "java/lang/Object")) (C := RJx4a65c) (T := TJx4a65c) (N := 3) hx hb hts in_Jx4a65c_init_da8c8_Jx4a65c tyJx4a65c tyJx4a65c_ok nmJx4a65c hown hK hP hD hS 0 rfl rfl 1 (by decide) w_4 (fun _ h9 => h9) rfl (by decide +kernel) (by first | rfl | decide) rfl (Nat.le_of_ble_eq_true rfl) dJx4a65c_init_da8c8_8 (fun H locs hP hD hS => ?_)
  have hP : va_P D vwCl [(a3, .inr (0, [.int 0, .ref dz, .int 0]))] H := hP
  have hD : va_D A [(a3, .inr (0, [.int 0, .ref dz, .int 0]))] := hD
  have hP9 := hP.sub (ws' := [(a3, .inr (0, [.int 0, .ref dz, .int 0]))]) [0] rfl
  have hD9 := hD.sub (ws' := [(a3, .inr (0, [.int 0, .ref dz, .int 0]))]) [0] (by decide) rfl
  refine W.widen (k := 0) (n := 0) (by omega) (by omega) ?_
  exact W.vret hx hb hr (fun t ht hW => ⟨⟨(), rfl, trivial, (by rw [ht]; exact hP9), va_K.moved hW.alike hK, hD9⟩, hS.F ht⟩) hS.2.2 dJx4a65c_init_da8c8_11 hlocks
set_option maxHeartbeats 4000000 in
set_option maxRecDepth 100000 in
theorem c_X2_init (l : Launch) (hlt : l.stackTraces = false) (D : va_G) (tC : Nat → ClassId) (dz sz : Nat) (f : Nat) (e1 : Nat) (e2 : Nat) (u1 : Int32) (u2 : Int32)  : Met l yX2_init wsX2_init ({ frames := 1, cells := 0, slots := 0, locals := 12 }) (va_Pc [.ref f, .ref e1, .ref e2, .int u1, .int u2] (pB D tC dz [(f, .inr (3, [.null, .null, .int 0, .int 0]))] sz)) (va_Qv (fun (_ : Unit) => True) (fun (_ : Unit) t => pA D tC (va_A [(f, .inr (3, [.null, .null, .int 0, .int 0]))] sz) [(f, .inr (3, [.ref e1, .ref e2, .int u1, .int u2]))] t) (va_A [(f, .inr (3, [.null, .null, .int 0, .int 0]))] sz)) 0 0 (va_A [(f, .inr (3, [.null, .null, .int 0, .int 0]))] sz) := by
  refine Met.ofW (cc := cX2_init) (maxL := 5) (ret := none) (by decide) rfl ?_
  intro p e s m args below meth c s₁ B hml hv
  obtain ⟨rfl, hsz, hP, hK, hD0, hN, hE⟩ := hv
  have hx := B.exec
  have hb := B.bytes
  have hr := B.returns
  have hts := atoms_spec (ws := wsX2_init) B.pre
  have hown : s.vm.findClass RX2 = some m.cls := findClass_of_methodNamed B.named
  have hlocks := B.notSynchronized
  have hin : meth.name = "<init>" := (name_of_methodNamed B.named B.method).1
  subst hsz
  have hD := hD0.self (sz := s.heap.size)
  generalize hAe : va_A [(f, .inr (3, [.null, .null, .int 0, .int 0]))] s.heap.size = A at hD hE ⊢
  have hA : ∀ q : Nat, s.heap.size ≤ q → A q := fun q h => by rw [← hAe]; exact Or.inr h
  have hS : va_S A s.heap s.heap [] := va_S.rf
  have hP : va_P D vwCl [(f, .inr (3, [.null, .null, .int 0, .int 0]))] s.heap := hP
  have hl := lv_entry ([.ref f, .ref e1, .ref e2, .int u1, .int u2]) (n := 5) (Nat.le_of_ble_eq_true rfl)
  rw [lg_entry_eq]
  generalize (lg_sl ([.ref f, .ref e1, .ref e2, .int u1, .int u2]) ++ List.replicate (5 - (lg_sl ([.ref f, .ref e1, .ref e2, .int u1, .int u2])).length) Slot.unset).toArray = ls at hl ⊢
  have hl : lv_has ls 5 [(0, .ref f), (1, .ref e1), (2, .ref e2), (3, .int u1), (4, .int u2)] := hl
  have w_0 := hts (.methodLink RX2 1 objectInit) (by decide +kernel)
  have w_1 := hts (.instanceMethod objectInit) (by decide +kernel)
  have w_2 := hts (.code objectInit ⟨#[0xb1]⟩ 1 none) (by decide +kernel)
  have w_3 := hts (.fieldLink RX2 7 "NoticeStations$Standing" "entries" "[I") (by decide +kernel)
  have w_4 := hts (.fieldLink RX2 13 "NoticeStations$Standing" "numbers" "[I") (by decide +kernel)
  have w_5 := hts (.fieldLink RX2 16 "NoticeStations$Standing" "size" "I") (by decide +kernel)
  have w_6 := hts (.fieldLink RX2 20 "NoticeStations$Standing" "named" "I") (by decide +kernel)
  refine lv_aload_n hx hb dX2_init_0 rfl (lv_at hl 0 rfl) ?_
  refine W.objInit hx hb hown w_0 w_1 w_2 rfl (by rw [hml]; exact hl.1) rfl dX2_init_1 (Nat.le_of_ble_eq_true rfl) (Nat.le_of_ble_eq_true rfl) ?_
  refine W.eq (g2 := F0 m 4 ls []) rfl ?_
  refine lv_aload_n hx hb dX2_init_4 rfl (lv_at hl 0 rfl) ?_
  refine lv_aload_n hx hb dX2_init_5 rfl (lv_at hl 1 rfl) ?_
  refine va_putF (D := D) (ci := 3) (v := .ref e1) (ty := .array .int) (C := RX2) (T := TX2) (N := 4) hx hb hts in_X2_init_X2 tyX2 tyX2_ok nmX2 hown hK hP hD hS 0 rfl rfl 0 (by decide) w_3 (fun _ h9 => h9) rfl hin rfl (by decide +kernel) (by first | rfl | decide) rfl (Nat.le_of_ble_eq_true rfl) dX2_init_6 (fun H locs hP hD hS => ?_)
  have hP : va_P D vwCl [(f, .inr (3, [.ref e1, .null, .int 0, .int 0]))] H := hP
  have hD : va_D A [(f, .inr (3, [.ref e1, .null, .int 0, .int 0]))] := hD
  refine lv_aload_n hx hb dX2_init_9 rfl (lv_at hl 0 rfl) ?_
  refine lv_aload_n hx hb dX2_init_10 rfl (lv_at hl 2 rfl) ?_
  refine va_putF (D := D) (ci := 3) (v := .ref e2) (ty := .array .int) (C := RX2) (T := TX2) (N := 4) hx hb hts in_X2_init_X2 tyX2 tyX2_ok nmX2 hown hK hP hD hS 0 rfl rfl 1 (by decide) w_4 (fun _ h9 => h9) rfl hin rfl (by decide +kernel) (by first | rfl | decide) rfl (Nat.le_of_ble_eq_true rfl) dX2_init_11 (fun H locs hP hD hS => ?_)
  have hP : va_P D vwCl [(f, .inr (3, [.ref e1, .ref e2, .int 0, .int 0]))] H := hP
  have hD : va_D A [(f, .inr (3, [.ref e1, .ref e2, .int 0, .int 0]))] := hD
  refine lv_aload_n hx hb dX2_init_14 rfl (lv_at hl 0 rfl) ?_
  refine lv_iload_n hx hb dX2_init_15 rfl (lv_at hl 3 rfl) ?_
  refine va_putF (D := D) (ci := 3) (v := .int u1) (ty := .int) (C := RX2) (T := TX2) (N := 4) hx hb hts in_X2_init_X2 tyX2 tyX2_ok nmX2 hown hK hP hD hS 0 rfl rfl 2 (by decide) w_5 (fun _ h9 => h9) rfl hin rfl (by decide +kernel) (by first | rfl | decide) rfl (Nat.le_of_ble_eq_true rfl) dX2_init_16 (fun H locs hP hD hS => ?_)
  have hP : va_P D vwCl [(f, .inr (3, [.ref e1, .ref e2, .int u1, .int 0]))] H := hP
  have hD : va_D A [(f, .inr (3, [.ref e1, .ref e2, .int u1, .int 0]))] := hD
  refine lv_aload_n hx hb dX2_init_19 rfl (lv_at hl 0 rfl) ?_
  refine lv_iload hx hb dX2_init_20 (lv_at hl 4 rfl) ?_
  refine va_putF (D := D) (ci := 3) (v := .int u2) (ty := .int) (C := RX2) (T := TX2) (N := 4) hx hb hts in_X2_init_X2 tyX2 tyX2_ok nmX2 hown hK hP hD hS 0 rfl rfl 3 (by decide) w_6 (fun _ h9 => h9) rfl hin rfl (by decide +kernel) (by first | rfl | decide) rfl (Nat.le_of_ble_eq_true rfl) dX2_init_22 (fun H locs hP hD hS => ?_)
  have hP : va_P D vwCl [(f, .inr (3, [.ref e1, .ref e2, .int u1, .int u2]))] H := hP
  have hD : va_D A [(f, .inr (3, [.ref e1, .ref e2, .int u1, .int u2]))] := hD
  have hP9 := hP.sub (ws' := [(f, .inr (3, [.ref e1, .ref e2, .int u1, .int u2]))]) [0] rfl
  have hD9 := hD.sub (ws' := [(f, .inr (3, [.ref e1, .ref e2, .int u1, .int u2]))]) [0] (by decide) rfl
  refine W.widen (k := 0) (n := 0) (by omega) (by omega) ?_
  exact W.vret hx hb hr (fun t ht hW => ⟨⟨(), rfl, trivial, (by rw [ht]; exact hP9), va_K.moved hW.alike hK, hD9⟩, hS.F ht⟩) hS.2.2 dX2_init_25 hlocks
set_option maxHeartbeats 4000000 in
set_option maxRecDepth 100000 in
theorem c_X3_init (l : Launch) (hlt : l.stackTraces = false) (D : va_G) (tC : Nat → ClassId) (dz sz : Nat) (q : Nat) (f : Nat) (ow : Int32)  : Met l yX3_init wsX3_init ({ frames := 1, cells := 0, slots := 0, locals := 12 }) (va_Pc [.ref q, .int ow, .ref f] (pB D tC dz [(q, .inr (4, [.int 0, .int 0, .null, .int 0, .int 0, .null, .int 0, .null]))] sz)) (va_Qv (fun (_ : Unit) => True) (fun (_ : Unit) t => pA D tC (va_A [(q, .inr (4, [.int 0, .int 0, .null, .int 0, .int 0, .null, .int 0, .null]))] sz) [(q, .inr (4, [.int ow, .int 1, .ref f, .int 0, .int (-1), .null, .int (-1), .null]))] t) (va_A [(q, .inr (4, [.int 0, .int 0, .null, .int 0, .int 0, .null, .int 0, .null]))] sz)) 0 0 (va_A [(q, .inr (4, [.int 0, .int 0, .null, .int 0, .int 0, .null, .int 0, .null]))] sz) := by
  refine Met.ofW (cc := cX3_init) (maxL := 3) (ret := none) (by decide) rfl ?_
  intro p e s m args below meth c s₁ B hml hv
  obtain ⟨rfl, hsz, hP, hK, hD0, hN, hE⟩ := hv
  have hx := B.exec
  have hb := B.bytes
  have hr := B.returns
  have hts := atoms_spec (ws := wsX3_init) B.pre
  have hown : s.vm.findClass RX3 = some m.cls := findClass_of_methodNamed B.named
  have hlocks := B.notSynchronized
  have hin : meth.name = "<init>" := (name_of_methodNamed B.named B.method).1
  subst hsz
  have hD := hD0.self (sz := s.heap.size)
  generalize hAe : va_A [(q, .inr (4, [.int 0, .int 0, .null, .int 0, .int 0, .null, .int 0, .null]))] s.heap.size = A at hD hE ⊢
  have hA : ∀ q : Nat, s.heap.size ≤ q → A q := fun q h => by rw [← hAe]; exact Or.inr h
  have hS : va_S A s.heap s.heap [] := va_S.rf
  have hP : va_P D vwCl [(q, .inr (4, [.int 0, .int 0, .null, .int 0, .int 0, .null, .int 0, .null]))] s.heap := hP
  have hl := lv_entry ([.ref q, .int ow, .ref f]) (n := 3) (Nat.le_of_ble_eq_true rfl)
  rw [lg_entry_eq]
  generalize (lg_sl ([.ref q, .int ow, .ref f]) ++ List.replicate (3 - (lg_sl ([.ref q, .int ow, .ref f])).length) Slot.unset).toArray = ls at hl ⊢
  have hl : lv_has ls 3 [(0, .ref q), (1, .int ow), (2, .ref f)] := hl
  have w_0 := hts (.methodLink RX3 3 objectInit) (by decide +kernel)
  have w_1 := hts (.instanceMethod objectInit) (by decide +kernel)
  have w_2 := hts (.code objectInit ⟨#[0xb1]⟩ 1 none) (by decide +kernel)
  have w_3 := hts (.fieldLink RX3 9 "NoticeStations$Station" "up" "Z") (by decide +kernel)
  have w_4 := hts (.fieldLink RX3 15 "NoticeStations$Station" "began" "I") (by decide +kernel)
  have w_5 := hts (.fieldLink RX3 19 "NoticeStations$Station" "preparedNumber" "I") (by decide +kernel)
  have w_6 := hts (.fieldLink RX3 22 "NoticeStations$Station" "preparedStanding" "LNoticeStations$Standing;") (by decide +kernel)
  have w_7 := hts (.fieldLink RX3 26 "NoticeStations$Station" "lock" "I") (by decide +kernel)
  have w_8 := hts (.fieldLink RX3 29 "NoticeStations$Station" "open" "LNoticeStations$OpenWrite;") (by decide +kernel)
  have w_9 := hts (.fieldLink RX3 33 "NoticeStations$Station" "own" "I") (by decide +kernel)
  have w_10 := hts (.fieldLink RX3 36 "NoticeStations$Station" "stored" "LNoticeStations$Standing;") (by decide +kernel)
  refine lv_aload_n hx hb dX3_init_0 rfl (lv_at hl 0 rfl) ?_
  refine W.objInit hx hb hown w_0 w_1 w_2 rfl (by rw [hml]; exact hl.1) rfl dX3_init_1 (Nat.le_of_ble_eq_true rfl) (Nat.le_of_ble_eq_true rfl) ?_
  refine W.eq (g2 := F0 m 4 ls []) rfl ?_
  refine lv_aload_n hx hb dX3_init_4 rfl (lv_at hl 0 rfl) ?_
  refine lv_iconst (v := 1) hx hb dX3_init_5 (by decide) ?_
  refine va_put (D := D) (ci := 4) (v := .int 1) (ty := .boolean) (C := RX3) (T := TX3) (N := 8) hx hb hts in_X3_init_X3 tyX3 tyX3_ok nmX3 hown hK hP hD hS 0 rfl rfl 1 (by decide) w_3 (fun _ h9 => h9) rfl (by decide +kernel) (by first | rfl | decide) rfl (Nat.le_of_ble_eq_true rfl) dX3_init_6 (fun H locs hP hD hS => ?_)
  have hP : va_P D vwCl [(q, .inr (4, [.int 0, .int 1, .null, .int 0, .int 0, .null, .int 0, .null]))] H := hP
  have hD : va_D A [(q, .inr (4, [.int 0, .int 1, .null, .int 0, .int 0, .null, .int 0, .null]))] := hD
  refine lv_aload_n hx hb dX3_init_9 rfl (lv_at hl 0 rfl) ?_
  refine lv_iconst (v := 0) hx hb dX3_init_10 (by decide) ?_
  refine va_put (D := D) (ci := 4) (v := .int 0) (ty := .int) (C := RX3) (T := TX3) (N := 8) hx hb hts in_X3_init_X3 tyX3 tyX3_ok nmX3 hown hK hP hD hS 0 rfl rfl 3 (by decide) w_4 (fun _ h9 => h9) rfl (by decide +kernel) (by first | rfl | decide) rfl (Nat.le_of_ble_eq_true rfl) dX3_init_11 (fun H locs hP hD hS => ?_)
  have hP : va_P D vwCl [(q, .inr (4, [.int 0, .int 1, .null, .int 0, .int 0, .null, .int 0, .null]))] H := hP
  have hD : va_D A [(q, .inr (4, [.int 0, .int 1, .null, .int 0, .int 0, .null, .int 0, .null]))] := hD
  refine lv_aload_n hx hb dX3_init_14 rfl (lv_at hl 0 rfl) ?_
  refine lv_iconst (v := (-1)) hx hb dX3_init_15 (by decide) ?_
  refine va_put (D := D) (ci := 4) (v := .int (-1)) (ty := .int) (C := RX3) (T := TX3) (N := 8) hx hb hts in_X3_init_X3 tyX3 tyX3_ok nmX3 hown hK hP hD hS 0 rfl rfl 4 (by decide) w_5 (fun _ h9 => h9) rfl (by decide +kernel) (by first | rfl | decide) rfl (Nat.le_of_ble_eq_true rfl) dX3_init_16 (fun H locs hP hD hS => ?_)
  have hP : va_P D vwCl [(q, .inr (4, [.int 0, .int 1, .null, .int 0, .int (-1), .null, .int 0, .null]))] H := hP
  have hD : va_D A [(q, .inr (4, [.int 0, .int 1, .null, .int 0, .int (-1), .null, .int 0, .null]))] := hD
  refine lv_aload_n hx hb dX3_init_19 rfl (lv_at hl 0 rfl) ?_
  refine lv_null hx hb dX3_init_20 ?_
  refine va_put (D := D) (ci := 4) (v := .null) (ty := .object "NoticeStations$Standing") (C := RX3) (T := TX3) (N := 8) hx hb hts in_X3_init_X3 tyX3 tyX3_ok nmX3 hown hK hP hD hS 0 rfl rfl 5 (by decide) w_6 (fun _ h9 => h9) rfl (by decide +kernel) (by first | rfl | decide) rfl (Nat.le_of_ble_eq_true rfl) dX3_init_21 (fun H locs hP hD hS => ?_)
  have hP : va_P D vwCl [(q, .inr (4, [.int 0, .int 1, .null, .int 0, .int (-1), .null, .int 0, .null]))] H := hP
  have hD : va_D A [(q, .inr (4, [.int 0, .int 1, .null, .int 0, .int (-1), .null, .int 0, .null]))] := hD
  refine lv_aload_n hx hb dX3_init_24 rfl (lv_at hl 0 rfl) ?_
  refine lv_iconst (v := (-1)) hx hb dX3_init_25 (by decide) ?_
  refine va_put (D := D) (ci := 4) (v := .int (-1)) (ty := .int) (C := RX3) (T := TX3) (N := 8) hx hb hts in_X3_init_X3 tyX3 tyX3_ok nmX3 hown hK hP hD hS 0 rfl rfl 6 (by decide) w_7 (fun _ h9 => h9) rfl (by decide +kernel) (by first | rfl | decide) rfl (Nat.le_of_ble_eq_true rfl) dX3_init_26 (fun H locs hP hD hS => ?_)
  have hP : va_P D vwCl [(q, .inr (4, [.int 0, .int 1, .null, .int 0, .int (-1), .null, .int (-1), .null]))] H := hP
  have hD : va_D A [(q, .inr (4, [.int 0, .int 1, .null, .int 0, .int (-1), .null, .int (-1), .null]))] := hD
  refine lv_aload_n hx hb dX3_init_29 rfl (lv_at hl 0 rfl) ?_
  refine lv_null hx hb dX3_init_30 ?_
  refine va_put (D := D) (ci := 4) (v := .null) (ty := .object "NoticeStations$OpenWrite") (C := RX3) (T := TX3) (N := 8) hx hb hts in_X3_init_X3 tyX3 tyX3_ok nmX3 hown hK hP hD hS 0 rfl rfl 7 (by decide) w_8 (fun _ h9 => h9) rfl (by decide +kernel) (by first | rfl | decide) rfl (Nat.le_of_ble_eq_true rfl) dX3_init_31 (fun H locs hP hD hS => ?_)
  have hP : va_P D vwCl [(q, .inr (4, [.int 0, .int 1, .null, .int 0, .int (-1), .null, .int (-1), .null]))] H := hP
  have hD : va_D A [(q, .inr (4, [.int 0, .int 1, .null, .int 0, .int (-1), .null, .int (-1), .null]))] := hD
  refine lv_aload_n hx hb dX3_init_34 rfl (lv_at hl 0 rfl) ?_
  refine lv_iload_n hx hb dX3_init_35 rfl (lv_at hl 1 rfl) ?_
  refine va_putF (D := D) (ci := 4) (v := .int ow) (ty := .int) (C := RX3) (T := TX3) (N := 8) hx hb hts in_X3_init_X3 tyX3 tyX3_ok nmX3 hown hK hP hD hS 0 rfl rfl 0 (by decide) w_9 (fun _ h9 => h9) rfl hin rfl (by decide +kernel) (by first | rfl | decide) rfl (Nat.le_of_ble_eq_true rfl) dX3_init_36 (fun H locs hP hD hS => ?_)
  have hP : va_P D vwCl [(q, .inr (4, [.int ow, .int 1, .null, .int 0, .int (-1), .null, .int (-1), .null]))] H := hP
  have hD : va_D A [(q, .inr (4, [.int ow, .int 1, .null, .int 0, .int (-1), .null, .int (-1), .null]))] := hD
  refine lv_aload_n hx hb dX3_init_39 rfl (lv_at hl 0 rfl) ?_
  refine lv_aload_n hx hb dX3_init_40 rfl (lv_at hl 2 rfl) ?_
  refine va_put (D := D) (ci := 4) (v := .ref f) (ty := .object "NoticeStations$Standing") (C := RX3) (T := TX3) (N := 8) hx hb hts in_X3_init_X3 tyX3 tyX3_ok nmX3 hown hK hP hD hS 0 rfl rfl 2 (by decide) w_10 (fun _ h9 => h9) rfl (by decide +kernel) (by first | rfl | decide) rfl (Nat.le_of_ble_eq_true rfl) dX3_init_41 (fun H locs hP hD hS => ?_)
  have hP : va_P D vwCl [(q, .inr (4, [.int ow, .int 1, .ref f, .int 0, .int (-1), .null, .int (-1), .null]))] H := hP
  have hD : va_D A [(q, .inr (4, [.int ow, .int 1, .ref f, .int 0, .int (-1), .null, .int (-1), .null]))] := hD
  have hP9 := hP.sub (ws' := [(q, .inr (4, [.int ow, .int 1, .ref f, .int 0, .int (-1), .null, .int (-1), .null]))]) [0] rfl
  have hD9 := hD.sub (ws' := [(q, .inr (4, [.int ow, .int 1, .ref f, .int 0, .int (-1), .null, .int (-1), .null]))]) [0] (by decide) rfl
  refine W.widen (k := 0) (n := 0) (by omega) (by omega) ?_
  exact W.vret hx hb hr (fun t ht hW => ⟨⟨(), rfl, trivial, (by rw [ht]; exact hP9), va_K.moved hW.alike hK, hD9⟩, hS.F ht⟩) hS.2.2 dX3_init_44 hlocks
set_option maxHeartbeats 4000000 in
set_option maxRecDepth 100000 in
theorem c_X0_init (l : Launch) (hlt : l.stackTraces = false) (D : va_G) (tC : Nat → ClassId) (dz sz : Nat) (lt : Nat) (k0 : Int32) (k1 : Int32) (k2 : Int32) (k3 : Int32)  : Met l yX0_init wsX0_init ({ frames := 1, cells := 0, slots := 0, locals := 12 }) (va_Pc [.ref lt, .int k0, .int k1, .int k2, .int k3, .null] (pB D tC dz [(lt, .inr (1, [.int 0, .int 0, .int 0, .int 0, .null]))] sz)) (va_Qv (fun (_ : Unit) => True) (fun (_ : Unit) t => pA D tC (va_A [(lt, .inr (1, [.int 0, .int 0, .int 0, .int 0, .null]))] sz) [(lt, .inr (1, [.int k0, .int k1, .int k2, .int k3, .null]))] t) (va_A [(lt, .inr (1, [.int 0, .int 0, .int 0, .int 0, .null]))] sz)) 0 0 (va_A [(lt, .inr (1, [.int 0, .int 0, .int 0, .int 0, .null]))] sz) := by
  refine Met.ofW (cc := cX0_init) (maxL := 6) (ret := none) (by decide) rfl ?_
  intro p e s m args below meth c s₁ B hml hv
  obtain ⟨rfl, hsz, hP, hK, hD0, hN, hE⟩ := hv
  have hx := B.exec
  have hb := B.bytes
  have hr := B.returns
  have hts := atoms_spec (ws := wsX0_init) B.pre
  have hown : s.vm.findClass RX0 = some m.cls := findClass_of_methodNamed B.named
  have hlocks := B.notSynchronized
  have hin : meth.name = "<init>" := (name_of_methodNamed B.named B.method).1
  subst hsz
  have hD := hD0.self (sz := s.heap.size)
  generalize hAe : va_A [(lt, .inr (1, [.int 0, .int 0, .int 0, .int 0, .null]))] s.heap.size = A at hD hE ⊢
  have hA : ∀ q : Nat, s.heap.size ≤ q → A q := fun q h => by rw [← hAe]; exact Or.inr h
  have hS : va_S A s.heap s.heap [] := va_S.rf
  have hP : va_P D vwCl [(lt, .inr (1, [.int 0, .int 0, .int 0, .int 0, .null]))] s.heap := hP
  have hl := lv_entry ([.ref lt, .int k0, .int k1, .int k2, .int k3, .null]) (n := 6) (Nat.le_of_ble_eq_true rfl)
  rw [lg_entry_eq]
  generalize (lg_sl ([.ref lt, .int k0, .int k1, .int k2, .int k3, .null]) ++ List.replicate (6 - (lg_sl ([.ref lt, .int k0, .int k1, .int k2, .int k3, .null])).length) Slot.unset).toArray = ls at hl ⊢
  have hl : lv_has ls 6 [(0, .ref lt), (1, .int k0), (2, .int k1), (3, .int k2), (4, .int k3), (5, .null)] := hl
  have w_0 := hts (.methodLink RX0 1 objectInit) (by decide +kernel)
  have w_1 := hts (.instanceMethod objectInit) (by decide +kernel)
  have w_2 := hts (.code objectInit ⟨#[0xb1]⟩ 1 none) (by decide +kernel)
  have w_3 := hts (.fieldLink RX0 7 "NoticeStations$Letter" "kind" "I") (by decide +kernel)
  have w_4 := hts (.fieldLink RX0 13 "NoticeStations$Letter" "from" "I") (by decide +kernel)
  have w_5 := hts (.fieldLink RX0 16 "NoticeStations$Letter" "to" "I") (by decide +kernel)
  have w_6 := hts (.fieldLink RX0 19 "NoticeStations$Letter" "number" "I") (by decide +kernel)
  have w_7 := hts (.fieldLink RX0 22 "NoticeStations$Letter" "standing" "LNoticeStations$Standing;") (by decide +kernel)
  refine lv_aload_n hx hb dX0_init_0 rfl (lv_at hl 0 rfl) ?_
  refine W.objInit hx hb hown w_0 w_1 w_2 rfl (by rw [hml]; exact hl.1) rfl dX0_init_1 (Nat.le_of_ble_eq_true rfl) (Nat.le_of_ble_eq_true rfl) ?_
  refine W.eq (g2 := F0 m 4 ls []) rfl ?_
  refine lv_aload_n hx hb dX0_init_4 rfl (lv_at hl 0 rfl) ?_
  refine lv_iload_n hx hb dX0_init_5 rfl (lv_at hl 1 rfl) ?_
  refine va_putF (D := D) (ci := 1) (v := .int k0) (ty := .int) (C := RX0) (T := TX0) (N := 5) hx hb hts in_X0_init_X0 tyX0 tyX0_ok nmX0 hown hK hP hD hS 0 rfl rfl 0 (by decide) w_3 (fun _ h9 => h9) rfl hin rfl (by decide +kernel) (by first | rfl | decide) rfl (Nat.le_of_ble_eq_true rfl) dX0_init_6 (fun H locs hP hD hS => ?_)
  have hP : va_P D vwCl [(lt, .inr (1, [.int k0, .int 0, .int 0, .int 0, .null]))] H := hP
  have hD : va_D A [(lt, .inr (1, [.int k0, .int 0, .int 0, .int 0, .null]))] := hD
  refine lv_aload_n hx hb dX0_init_9 rfl (lv_at hl 0 rfl) ?_
  refine lv_iload_n hx hb dX0_init_10 rfl (lv_at hl 2 rfl) ?_
  refine va_putF (D := D) (ci := 1) (v := .int k1) (ty := .int) (C := RX0) (T := TX0) (N := 5) hx hb hts in_X0_init_X0 tyX0 tyX0_ok nmX0 hown hK hP hD hS 0 rfl rfl 1 (by decide) w_4 (fun _ h9 => h9) rfl hin rfl (by decide +kernel) (by first | rfl | decide) rfl (Nat.le_of_ble_eq_true rfl) dX0_init_11 (fun H locs hP hD hS => ?_)
  have hP : va_P D vwCl [(lt, .inr (1, [.int k0, .int k1, .int 0, .int 0, .null]))] H := hP
  have hD : va_D A [(lt, .inr (1, [.int k0, .int k1, .int 0, .int 0, .null]))] := hD
  refine lv_aload_n hx hb dX0_init_14 rfl (lv_at hl 0 rfl) ?_
  refine lv_iload_n hx hb dX0_init_15 rfl (lv_at hl 3 rfl) ?_
  refine va_putF (D := D) (ci := 1) (v := .int k2) (ty := .int) (C := RX0) (T := TX0) (N := 5) hx hb hts in_X0_init_X0 tyX0 tyX0_ok nmX0 hown hK hP hD hS 0 rfl rfl 2 (by decide) w_5 (fun _ h9 => h9) rfl hin rfl (by decide +kernel) (by first | rfl | decide) rfl (Nat.le_of_ble_eq_true rfl) dX0_init_16 (fun H locs hP hD hS => ?_)
  have hP : va_P D vwCl [(lt, .inr (1, [.int k0, .int k1, .int k2, .int 0, .null]))] H := hP
  have hD : va_D A [(lt, .inr (1, [.int k0, .int k1, .int k2, .int 0, .null]))] := hD
  refine lv_aload_n hx hb dX0_init_19 rfl (lv_at hl 0 rfl) ?_
  refine lv_iload hx hb dX0_init_20 (lv_at hl 4 rfl) ?_
  refine va_putF (D := D) (ci := 1) (v := .int k3) (ty := .int) (C := RX0) (T := TX0) (N := 5) hx hb hts in_X0_init_X0 tyX0 tyX0_ok nmX0 hown hK hP hD hS 0 rfl rfl 3 (by decide) w_6 (fun _ h9 => h9) rfl hin rfl (by decide +kernel) (by first | rfl | decide) rfl (Nat.le_of_ble_eq_true rfl) dX0_init_22 (fun H locs hP hD hS => ?_)
  have hP : va_P D vwCl [(lt, .inr (1, [.int k0, .int k1, .int k2, .int k3, .null]))] H := hP
  have hD : va_D A [(lt, .inr (1, [.int k0, .int k1, .int k2, .int k3, .null]))] := hD
  refine lv_aload_n hx hb dX0_init_25 rfl (lv_at hl 0 rfl) ?_
  refine lv_aloadN hx hb dX0_init_26 (lv_at hl 5 rfl) ?_
  refine va_putF (D := D) (ci := 1) (v := .null) (ty := .object "NoticeStations$Standing") (C := RX0) (T := TX0) (N := 5) hx hb hts in_X0_init_X0 tyX0 tyX0_ok nmX0 hown hK hP hD hS 0 rfl rfl 4 (by decide) w_7 (fun _ h9 => h9) rfl hin rfl (by decide +kernel) (by first | rfl | decide) rfl (Nat.le_of_ble_eq_true rfl) dX0_init_28 (fun H locs hP hD hS => ?_)
  have hP : va_P D vwCl [(lt, .inr (1, [.int k0, .int k1, .int k2, .int k3, .null]))] H := hP
  have hD : va_D A [(lt, .inr (1, [.int k0, .int k1, .int k2, .int k3, .null]))] := hD
  have hP9 := hP.sub (ws' := [(lt, .inr (1, [.int k0, .int k1, .int k2, .int k3, .null]))]) [0] rfl
  have hD9 := hD.sub (ws' := [(lt, .inr (1, [.int k0, .int k1, .int k2, .int k3, .null]))]) [0] (by decide) rfl
  refine W.widen (k := 0) (n := 0) (by omega) (by omega) ?_
  exact W.vret hx hb hr (fun t ht hW => ⟨⟨(), rfl, trivial, (by rw [ht]; exact hP9), va_K.moved hW.alike hK, hD9⟩, hS.F ht⟩) hS.2.2 dX0_init_31 hlocks
set_option maxHeartbeats 4000000 in
set_option maxRecDepth 100000 in
theorem c_X1_init (l : Launch) (hlt : l.stackTraces = false) (D : va_G) (tC : Nat → ClassId) (dz sz : Nat) (o : Nat) (u1 : Int32) (u2 : Int32)  : Met l yX1_init wsX1_init ({ frames := 1, cells := 2, slots := 10, locals := 12 }) (va_Pc [.ref o, .int u1, .int u2] (pB D tC dz [(o, .inr (2, [.int 0, .int 0, .null, .null, .null]))] sz)) (va_Qv (fun (_ : Unit) => True) (fun (_ : Unit) t => ∃ (g1 : Nat) (g2 : Nat), pA D tC (va_A [(o, .inr (2, [.int 0, .int 0, .null, .null, .null]))] sz) [(o, .inr (2, [.int u1, .int u2, .ref g1, .ref g2, .null])), (g1, wS tC 5 (fun _ => none))] t) (va_A [(o, .inr (2, [.int 0, .int 0, .null, .null, .null]))] sz)) 2 10 (va_A [(o, .inr (2, [.int 0, .int 0, .null, .null, .null]))] sz) := by
  refine Met.ofW (cc := cX1_init) (maxL := 3) (ret := none) (by decide) rfl ?_
  intro p e s m args below meth c s₁ B hml hv
  obtain ⟨rfl, hsz, hP, hK, hD0, hN, hE⟩ := hv
  have hx := B.exec
  have hb := B.bytes
  have hr := B.returns
  have hts := atoms_spec (ws := wsX1_init) B.pre
  have hown : s.vm.findClass RX1 = some m.cls := findClass_of_methodNamed B.named
  have hlocks := B.notSynchronized
  have hin : meth.name = "<init>" := (name_of_methodNamed B.named B.method).1
  subst hsz
  have hD := hD0.self (sz := s.heap.size)
  generalize hAe : va_A [(o, .inr (2, [.int 0, .int 0, .null, .null, .null]))] s.heap.size = A at hD hE ⊢
  have hA : ∀ q : Nat, s.heap.size ≤ q → A q := fun q h => by rw [← hAe]; exact Or.inr h
  have hS : va_S A s.heap s.heap [] := va_S.rf
  have hP : va_P D vwCl [(o, .inr (2, [.int 0, .int 0, .null, .null, .null]))] s.heap := hP
  have hl := lv_entry ([.ref o, .int u1, .int u2]) (n := 3) (Nat.le_of_ble_eq_true rfl)
  rw [lg_entry_eq]
  generalize (lg_sl ([.ref o, .int u1, .int u2]) ++ List.replicate (3 - (lg_sl ([.ref o, .int u1, .int u2])).length) Slot.unset).toArray = ls at hl ⊢
  have hl : lv_has ls 3 [(0, .ref o), (1, .int u1), (2, .int u2)] := hl
  have w_0 := hts (.methodLink RX1 3 objectInit) (by decide +kernel)
  have w_1 := hts (.instanceMethod objectInit) (by decide +kernel)
  have w_2 := hts (.code objectInit ⟨#[0xb1]⟩ 1 none) (by decide +kernel)
  have w_3 := hts (.classLink RX1 9 RX2) (by decide +kernel)
  have w_4 := hts (.fieldLink RX1 11 "NoticeStations$OpenWrite" "granted" "[LNoticeStations$Standing;") (by decide +kernel)
  have w_5 := hts (.arrayClass .boolean) (by decide +kernel)
  have w_6 := hts (.fieldLink RX1 17 "NoticeStations$OpenWrite" "prepared" "[Z") (by decide +kernel)
  have w_7 := hts (.fieldLink RX1 21 "NoticeStations$OpenWrite" "next" "LNoticeStations$Standing;") (by decide +kernel)
  have w_8 := hts (.fieldLink RX1 25 "NoticeStations$OpenWrite" "number" "I") (by decide +kernel)
  have w_9 := hts (.fieldLink RX1 29 "NoticeStations$OpenWrite" "entry" "I") (by decide +kernel)
  refine lv_aload_n hx hb dX1_init_0 rfl (lv_at hl 0 rfl) ?_
  refine W.objInit hx hb hown w_0 w_1 w_2 rfl (by rw [hml]; exact hl.1) rfl dX1_init_1 (Nat.le_of_ble_eq_true rfl) (Nat.le_of_ble_eq_true rfl) ?_
  refine W.eq (g2 := F0 m 4 ls []) rfl ?_
  refine lv_aload_n hx hb dX1_init_4 rfl (lv_at hl 0 rfl) ?_
  refine lv_iconst (v := 5) hx hb dX1_init_5 (by decide) ?_
  refine x_newq (N' := 5) (C := "NoticeStations$Standing") hx hb hown w_3 (hN.2.2.2.1 "NoticeStations$Standing" (by decide +kernel)) hK hP hD hS hA (i := 2) rfl (by decide) (by decide) (by decide) (Nat.le_of_ble_eq_true rfl) (Nat.le_of_ble_eq_true rfl) dX1_init_6 (fun g1 H hP hD hS => ?_)
  have hP : va_P D vwCl [(o, .inr (2, [.int 0, .int 0, .null, .null, .null])), (g1, wS tC 5 (fun _ => none))] H := hP
  have hD : va_D A [(o, .inr (2, [.int 0, .int 0, .null, .null, .null])), (g1, wS tC 5 (fun _ => none))] := hD
  refine W.widen (k := 1) (n := 5) (by omega) (by omega) ?_
  refine va_putF (D := D) (ci := 2) (v := .ref g1) (ty := .array (.object "NoticeStations$Standing")) (C := RX1) (T := TX1) (N := 5) hx hb hts in_X1_init_X1 tyX1 tyX1_ok nmX1 hown hK hP hD hS 0 rfl rfl 2 (by decide) w_4 (fun _ h9 => h9) rfl hin rfl (by decide +kernel) (by first | rfl | decide) rfl (Nat.le_of_ble_eq_true rfl) dX1_init_9 (fun H locs hP hD hS => ?_)
  have hP : va_P D vwCl [(o, .inr (2, [.int 0, .int 0, .ref g1, .null, .null])), (g1, wS tC 5 (fun _ => none))] H := hP
  have hD : va_D A [(o, .inr (2, [.int 0, .int 0, .ref g1, .null, .null])), (g1, wS tC 5 (fun _ => none))] := hD
  refine lv_aload_n hx hb dX1_init_12 rfl (lv_at hl 0 rfl) ?_
  refine lv_iconst (v := 5) hx hb dX1_init_13 (by decide) ?_
  refine x_newa (N' := 5) (ty := .boolean) (a0 := (5, .inl (fun _ => 0))) hx hb w_5 rfl hK hP hD hS hA (i := 1) rfl (fun cA => x_newZ cA _) (by decide) (by decide) (by decide) (Nat.le_of_ble_eq_true rfl) (Nat.le_of_ble_eq_true rfl) dX1_init_14 (fun g2 H hP hD hS => ?_)
  have hP : va_P D vwCl [(o, .inr (2, [.int 0, .int 0, .ref g1, .null, .null])), (g1, wS tC 5 (fun _ => none)), (g2, wZ tC 5 (fun _ => 0))] H := hP
  have hD : va_D A [(o, .inr (2, [.int 0, .int 0, .ref g1, .null, .null])), (g1, wS tC 5 (fun _ => none)), (g2, wZ tC 5 (fun _ => 0))] := hD
  refine W.widen (k := 2) (n := 10) (by omega) (by omega) ?_
  refine va_putF (D := D) (ci := 2) (v := .ref g2) (ty := .array .boolean) (C := RX1) (T := TX1) (N := 5) hx hb hts in_X1_init_X1 tyX1 tyX1_ok nmX1 hown hK hP hD hS 0 rfl rfl 3 (by decide) w_6 (fun _ h9 => h9) rfl hin rfl (by decide +kernel) (by first | rfl | decide) rfl (Nat.le_of_ble_eq_true rfl) dX1_init_16 (fun H locs hP hD hS => ?_)
  have hP : va_P D vwCl [(o, .inr (2, [.int 0, .int 0, .ref g1, .ref g2, .null])), (g1, wS tC 5 (fun _ => none)), (g2, wZ tC 5 (fun _ => 0))] H := hP
  have hD : va_D A [(o, .inr (2, [.int 0, .int 0, .ref g1, .ref g2, .null])), (g1, wS tC 5 (fun _ => none)), (g2, wZ tC 5 (fun _ => 0))] := hD
  refine lv_aload_n hx hb dX1_init_19 rfl (lv_at hl 0 rfl) ?_
  refine lv_null hx hb dX1_init_20 ?_
  refine va_put (D := D) (ci := 2) (v := .null) (ty := .object "NoticeStations$Standing") (C := RX1) (T := TX1) (N := 5) hx hb hts in_X1_init_X1 tyX1 tyX1_ok nmX1 hown hK hP hD hS 0 rfl rfl 4 (by decide) w_7 (fun _ h9 => h9) rfl (by decide +kernel) (by first | rfl | decide) rfl (Nat.le_of_ble_eq_true rfl) dX1_init_21 (fun H locs hP hD hS => ?_)
  have hP : va_P D vwCl [(o, .inr (2, [.int 0, .int 0, .ref g1, .ref g2, .null])), (g1, wS tC 5 (fun _ => none)), (g2, wZ tC 5 (fun _ => 0))] H := hP
  have hD : va_D A [(o, .inr (2, [.int 0, .int 0, .ref g1, .ref g2, .null])), (g1, wS tC 5 (fun _ => none)), (g2, wZ tC 5 (fun _ => 0))] := hD
  refine lv_aload_n hx hb dX1_init_24 rfl (lv_at hl 0 rfl) ?_
  refine lv_iload_n hx hb dX1_init_25 rfl (lv_at hl 1 rfl) ?_
  refine va_putF (D := D) (ci := 2) (v := .int u1) (ty := .int) (C := RX1) (T := TX1) (N := 5) hx hb hts in_X1_init_X1 tyX1 tyX1_ok nmX1 hown hK hP hD hS 0 rfl rfl 0 (by decide) w_8 (fun _ h9 => h9) rfl hin rfl (by decide +kernel) (by first | rfl | decide) rfl (Nat.le_of_ble_eq_true rfl) dX1_init_26 (fun H locs hP hD hS => ?_)
  have hP : va_P D vwCl [(o, .inr (2, [.int u1, .int 0, .ref g1, .ref g2, .null])), (g1, wS tC 5 (fun _ => none)), (g2, wZ tC 5 (fun _ => 0))] H := hP
  have hD : va_D A [(o, .inr (2, [.int u1, .int 0, .ref g1, .ref g2, .null])), (g1, wS tC 5 (fun _ => none)), (g2, wZ tC 5 (fun _ => 0))] := hD
  refine lv_aload_n hx hb dX1_init_29 rfl (lv_at hl 0 rfl) ?_
  refine lv_iload_n hx hb dX1_init_30 rfl (lv_at hl 2 rfl) ?_
  refine va_putF (D := D) (ci := 2) (v := .int u2) (ty := .int) (C := RX1) (T := TX1) (N := 5) hx hb hts in_X1_init_X1 tyX1 tyX1_ok nmX1 hown hK hP hD hS 0 rfl rfl 1 (by decide) w_9 (fun _ h9 => h9) rfl hin rfl (by decide +kernel) (by first | rfl | decide) rfl (Nat.le_of_ble_eq_true rfl) dX1_init_31 (fun H locs hP hD hS => ?_)
  have hP : va_P D vwCl [(o, .inr (2, [.int u1, .int u2, .ref g1, .ref g2, .null])), (g1, wS tC 5 (fun _ => none)), (g2, wZ tC 5 (fun _ => 0))] H := hP
  have hD : va_D A [(o, .inr (2, [.int u1, .int u2, .ref g1, .ref g2, .null])), (g1, wS tC 5 (fun _ => none)), (g2, wZ tC 5 (fun _ => 0))] := hD
  have hP9 := hP.sub (ws' := [(o, .inr (2, [.int u1, .int u2, .ref g1, .ref g2, .null])), (g1, wS tC 5 (fun _ => none))]) [0, 1] rfl
  have hD9 := hD.sub (ws' := [(o, .inr (2, [.int u1, .int u2, .ref g1, .ref g2, .null])), (g1, wS tC 5 (fun _ => none))]) [0, 1] (by decide) rfl
  refine W.widen (k := 2) (n := 10) (by omega) (by omega) ?_
  exact W.vret hx hb hr (fun t ht hW => ⟨⟨(), rfl, trivial, g1, g2, (by rw [ht]; exact hP9), va_K.moved hW.alike hK, hD9⟩, hS.F ht⟩) hS.2.2 dX1_init_34 hlocks
set_option maxHeartbeats 4000000 in
set_option maxRecDepth 100000 in
theorem c_X3_forgetWrite (l : Launch) (hlt : l.stackTraces = false) (D : va_G) (tC : Nat → ClassId) (dz sz : Nat) (q : Nat) (ow : Int32) (up : Int32) (sf : Nat) (bg : Int32) (pn : Int32) (lk : Int32)  : Met l yX3_forgetWrite wsX3_forgetWrite ({ frames := 0, cells := 0, slots := 0, locals := 0 }) (va_Pc [.ref q] (pB D tC dz [(q, .inr (4, [.int ow, .int up, .ref sf, .int bg, .int pn, .null, .int lk, .null]))] sz)) (va_Qv (fun (_ : Unit) => True) (fun (_ : Unit) t => pA D tC (va_A [(q, .inr (4, [.int ow, .int up, .ref sf, .int bg, .int pn, .null, .int lk, .null]))] sz) [(q, .inr (4, [.int ow, .int up, .ref sf, .int bg, .int pn, .null, .int (-1), .null]))] t) (va_A [(q, .inr (4, [.int ow, .int up, .ref sf, .int bg, .int pn, .null, .int lk, .null]))] sz)) 0 0 (va_A [(q, .inr (4, [.int ow, .int up, .ref sf, .int bg, .int pn, .null, .int lk, .null]))] sz) := by
  refine Met.ofW (cc := cX3_forgetWrite) (maxL := 1) (ret := none) (by decide) rfl ?_
  intro p e s m args below meth c s₁ B hml hv
  obtain ⟨rfl, hsz, hP, hK, hD0, hN, hE⟩ := hv
  have hx := B.exec
  have hb := B.bytes
  have hr := B.returns
  have hts := atoms_spec (ws := wsX3_forgetWrite) B.pre
  have hown : s.vm.findClass RX3 = some m.cls := findClass_of_methodNamed B.named
  have hlocks := B.notSynchronized
  subst hsz
  have hD := hD0.self (sz := s.heap.size)
  generalize hAe : va_A [(q, .inr (4, [.int ow, .int up, .ref sf, .int bg, .int pn, .null, .int lk, .null]))] s.heap.size = A at hD hE ⊢
  have hA : ∀ q : Nat, s.heap.size ≤ q → A q := fun q h => by rw [← hAe]; exact Or.inr h
  have hS : va_S A s.heap s.heap [] := va_S.rf
  have hP : va_P D vwCl [(q, .inr (4, [.int ow, .int up, .ref sf, .int bg, .int pn, .null, .int lk, .null]))] s.heap := hP
  have hl := lv_entry ([.ref q]) (n := 1) (Nat.le_of_ble_eq_true rfl)
  rw [lg_entry_eq]
  generalize (lg_sl ([.ref q]) ++ List.replicate (1 - (lg_sl ([.ref q])).length) Slot.unset).toArray = ls at hl ⊢
  have hl : lv_has ls 1 [(0, .ref q)] := hl
  have w_0 := hts (.fieldLink RX3 26 "NoticeStations$Station" "lock" "I") (by decide +kernel)
  have w_1 := hts (.fieldLink RX3 29 "NoticeStations$Station" "open" "LNoticeStations$OpenWrite;") (by decide +kernel)
  refine lv_aload_n hx hb dX3_forgetWrite_0 rfl (lv_at hl 0 rfl) ?_
  refine lv_iconst (v := (-1)) hx hb dX3_forgetWrite_1 (by decide) ?_
  refine va_put (D := D) (ci := 4) (v := .int (-1)) (ty := .int) (C := RX3) (T := TX3) (N := 8) hx hb hts in_X3_forgetWrite_X3 tyX3 tyX3_ok nmX3 hown hK hP hD hS 0 rfl rfl 6 (by decide) w_0 (fun _ h9 => h9) rfl (by decide +kernel) (by first | rfl | decide) rfl (Nat.le_of_ble_eq_true rfl) dX3_forgetWrite_2 (fun H locs hP hD hS => ?_)
  have hP : va_P D vwCl [(q, .inr (4, [.int ow, .int up, .ref sf, .int bg, .int pn, .null, .int (-1), .null]))] H := hP
  have hD : va_D A [(q, .inr (4, [.int ow, .int up, .ref sf, .int bg, .int pn, .null, .int (-1), .null]))] := hD
  refine lv_aload_n hx hb dX3_forgetWrite_5 rfl (lv_at hl 0 rfl) ?_
  refine lv_null hx hb dX3_forgetWrite_6 ?_
  refine va_put (D := D) (ci := 4) (v := .null) (ty := .object "NoticeStations$OpenWrite") (C := RX3) (T := TX3) (N := 8) hx hb hts in_X3_forgetWrite_X3 tyX3 tyX3_ok nmX3 hown hK hP hD hS 0 rfl rfl 7 (by decide) w_1 (fun _ h9 => h9) rfl (by decide +kernel) (by first | rfl | decide) rfl (Nat.le_of_ble_eq_true rfl) dX3_forgetWrite_7 (fun H locs hP hD hS => ?_)
  have hP : va_P D vwCl [(q, .inr (4, [.int ow, .int up, .ref sf, .int bg, .int pn, .null, .int (-1), .null]))] H := hP
  have hD : va_D A [(q, .inr (4, [.int ow, .int up, .ref sf, .int bg, .int pn, .null, .int (-1), .null]))] := hD
  have hP9 := hP.sub (ws' := [(q, .inr (4, [.int ow, .int up, .ref sf, .int bg, .int pn, .null, .int (-1), .null]))]) [0] rfl
  have hD9 := hD.sub (ws' := [(q, .inr (4, [.int ow, .int up, .ref sf, .int bg, .int pn, .null, .int (-1), .null]))]) [0] (by decide) rfl
  refine W.widen (k := 0) (n := 0) (by omega) (by omega) ?_
  exact W.vret hx hb hr (fun t ht hW => ⟨⟨(), rfl, trivial, (by rw [ht]; exact hP9), va_K.moved hW.alike hK, hD9⟩, hS.F ht⟩) hS.2.2 dX3_forgetWrite_10 hlocks
set_option maxHeartbeats 4000000 in
set_option maxRecDepth 100000 in
theorem c_X1_isCollecting (l : Launch) (hlt : l.stackTraces = false) (D : va_G) (tC : Nat → ClassId) (dz sz : Nat) (o : Nat) (u1 : Int32) (u2 : Int32) (g1 : Nat) (g2 : Nat)  : Met l yX1_isCollecting wsX1_isCollecting ({ frames := 0, cells := 0, slots := 0, locals := 0 }) (va_Pc [.ref o] (pB D tC dz [(o, .inr (2, [.int u1, .int u2, .ref g1, .ref g2, .null]))] sz)) (va_Qi (fun (r : Int32) (_ : Unit) => r = 1) (fun (_ : Unit) t => pA D tC (va_A [(o, .inr (2, [.int u1, .int u2, .ref g1, .ref g2, .null]))] sz) [(o, .inr (2, [.int u1, .int u2, .ref g1, .ref g2, .null]))] t) (va_A [(o, .inr (2, [.int u1, .int u2, .ref g1, .ref g2, .null]))] sz)) 0 0 (va_A [(o, .inr (2, [.int u1, .int u2, .ref g1, .ref g2, .null]))] sz) := by
  refine Met.ofW (cc := cX1_isCollecting) (maxL := 1) (ret := (some .boolean)) (by decide) rfl ?_
  intro p e s m args below meth c s₁ B hml hv
  obtain ⟨rfl, hsz, hP, hK, hD0, hN, hE⟩ := hv
  have hx := B.exec
  have hb := B.bytes
  have hr := B.returns
  have hts := atoms_spec (ws := wsX1_isCollecting) B.pre
  have hown : s.vm.findClass RX1 = some m.cls := findClass_of_methodNamed B.named
  have hlocks := B.notSynchronized
  subst hsz
  have hD := hD0.self (sz := s.heap.size)
  generalize hAe : va_A [(o, .inr (2, [.int u1, .int u2, .ref g1, .ref g2, .null]))] s.heap.size = A at hD hE ⊢
  have hA : ∀ q : Nat, s.heap.size ≤ q → A q := fun q h => by rw [← hAe]; exact Or.inr h
  have hS : va_S A s.heap s.heap [] := va_S.rf
  have hP : va_P D vwCl [(o, .inr (2, [.int u1, .int u2, .ref g1, .ref g2, .null]))] s.heap := hP
  have hl := lv_entry ([.ref o]) (n := 1) (Nat.le_of_ble_eq_true rfl)
  rw [lg_entry_eq]
  generalize (lg_sl ([.ref o]) ++ List.replicate (1 - (lg_sl ([.ref o])).length) Slot.unset).toArray = ls at hl ⊢
  have hl : lv_has ls 1 [(0, .ref o)] := hl
  have w_0 := hts (.fieldLink RX1 21 "NoticeStations$OpenWrite" "next" "LNoticeStations$Standing;") (by decide +kernel)
  refine lv_aload_n hx hb dX1_isCollecting_0 rfl (lv_at hl 0 rfl) ?_
  refine va_get (D := D) (ci := 2) (v := .null) (C := RX1) (T := TX1) (N := 5) hx hb hts in_X1_isCollecting_X1 hown hK hP 0 rfl rfl 4 (by decide) w_0 (fun _ h9 => h9) rfl dX1_isCollecting_1 ?_
  refine lv_ifnonnullN hx hb dX1_isCollecting_4 ?_
  refine lv_iconst (v := 1) hx hb dX1_isCollecting_7 (by decide) ?_
  refine lv_goto (tgt := 12) hx hb dX1_isCollecting_8 (by decide) ?_
  have hP9 := hP.sub (ws' := [(o, .inr (2, [.int u1, .int u2, .ref g1, .ref g2, .null]))]) [0] rfl
  have hD9 := hD.sub (ws' := [(o, .inr (2, [.int u1, .int u2, .ref g1, .ref g2, .null]))]) [0] (by decide) rfl
  refine W.widen (k := 0) (n := 0) (by omega) (by omega) ?_
  exact W.zret (v := 1) hx hb hr (by decide) (fun t ht hW => ⟨⟨1, (), rfl, (by first | rfl | simp), (by rw [ht]; exact hP9), va_K.moved hW.alike hK, hD9⟩, hS.F ht⟩) hS.2.2 dX1_isCollecting_12 hlocks
set_option maxHeartbeats 4000000 in
set_option maxRecDepth 100000 in
theorem c_Jx4a65c_size_8abf5 (l : Launch) (hlt : l.stackTraces = false) (D : va_G) (tC : Nat → ClassId) (dz sz : Nat) (a3 : Nat) (md : Int32) (ed : Nat) (n0 : Int32)  : Met l yJx4a65c_size_8abf5 wsJx4a65c_size_8abf5 ({ frames := 0, cells := 0, slots := 0, locals := 0 }) (va_Pc [.ref a3] (pB D tC dz [(a3, .inr (0, [.int md, .ref ed, .int n0]))] sz)) (va_Qi (fun (r : Int32) (_ : Unit) => r = n0) (fun (_ : Unit) t => pA D tC (va_A [(a3, .inr (0, [.int md, .ref ed, .int n0]))] sz) [(a3, .inr (0, [.int md, .ref ed, .int n0]))] t) (va_A [(a3, .inr (0, [.int md, .ref ed, .int n0]))] sz)) 0 0 (va_A [(a3, .inr (0, [.int md, .ref ed, .int n0]))] sz) := by
  refine Met.ofW (cc := cJx4a65c_size_8abf5) (maxL := 1) (ret := (some .int)) (by decide) rfl ?_
  intro p e s m args below meth c s₁ B hml hv
  obtain ⟨rfl, hsz, hP, hK, hD0, hN, hE⟩ := hv
  have hx := B.exec
  have hb := B.bytes
  have hr := B.returns
  have hts := atoms_spec (ws := wsJx4a65c_size_8abf5) B.pre
  have hown : s.vm.findClass RJx4a65c = some m.cls := findClass_of_methodNamed B.named
  have hlocks := B.notSynchronized
  subst hsz
  have hD := hD0.self (sz := s.heap.size)
  generalize hAe : va_A [(a3, .inr (0, [.int md, .ref ed, .int n0]))] s.heap.size = A at hD hE ⊢
  have hA : ∀ q : Nat, s.heap.size ≤ q → A q := fun q h => by rw [← hAe]; exact Or.inr h
  have hS : va_S A s.heap s.heap [] := va_S.rf
  have hP : va_P D vwCl [(a3, .inr (0, [.int md, .ref ed, .int n0]))] s.heap := hP
  have hl := lv_entry ([.ref a3]) (n := 1) (Nat.le_of_ble_eq_true rfl)
  rw [lg_entry_eq]
  generalize (lg_sl ([.ref a3]) ++ List.replicate (1 - (lg_sl ([.ref a3])).length) Slot.unset).toArray = ls at hl ⊢
  have hl : lv_has ls 1 [(0, .ref a3)] := hl
  have w_0 := hts (.fieldLink RJx4a65c 48 "java/util/ArrayList" "size" "I") (by decide +kernel)
  refine lv_aload_n hx hb dJx4a65c_size_8abf5_0 rfl (lv_at hl 0 rfl) ?_
  refine va_get (D := D) (ci := 0) (v := .int n0) (C := RJx4a65c) (T := TJx4a65c) (N := 3) hx hb hts in_Jx4a65c_size_8abf5_Jx4a65c hown hK hP 0 rfl rfl 2 (by decide) w_0 (fun _ h9 => h9) rfl dJx4a65c_size_8abf5_1 ?_
  have hP9 := hP.sub (ws' := [(a3, .inr (0, [.int md, .ref ed, .int n0]))]) [0] rfl
  have hD9 := hD.sub (ws' := [(a3, .inr (0, [.int md, .ref ed, .int n0]))]) [0] (by decide) rfl
  refine W.widen (k := 0) (n := 0) (by omega) (by omega) ?_
  exact W.iret (v := n0) hx hb hr (fun t ht hW => ⟨⟨n0, (), rfl, (by first | rfl | simp), (by rw [ht]; exact hP9), va_K.moved hW.alike hK, hD9⟩, hS.F ht⟩) hS.2.2 dJx4a65c_size_8abf5_4 hlocks
end
section
set_option maxRecDepth 100000 in
theorem dX4_requireTwoStations_0 : decode cX4_requireTwoStations 0 = .ok (.iload_n 1, 1) := by decide +kernel
set_option maxRecDepth 100000 in
theorem dX4_requireTwoStations_1 : decode cX4_requireTwoStations 1 = .ok (.iconst 5, 1) := by decide +kernel
set_option maxRecDepth 100000 in
theorem dX4_requireTwoStations_2 : decode cX4_requireTwoStations 2 = .ok (.invokestatic 46, 3) := by decide +kernel
set_option maxRecDepth 20000 in
theorem ggX4_requireTwoStations_X4_isBelow : GoodIn wsX4_requireTwoStations wsX4_isBelow := goodIn_r _ [6] (by decide +kernel) (by decide +kernel)
set_option maxRecDepth 20000 in
theorem gX4_requireTwoStations_X4_isBelow : GoodIn wsX4_requireTwoStations (va_wsS RX4 46 yX4_isBelow wsX4_isBelow) := goodIn_app (goodIn_of _ (by decide +kernel)) ggX4_requireTwoStations_X4_isBelow
set_option maxRecDepth 100000 in
theorem dX4_requireTwoStations_5 : decode cX4_requireTwoStations 5 = .ok (.ifCond .eq 16, 3) := by decide +kernel
set_option maxRecDepth 100000 in
theorem dX4_requireTwoStations_21 : decode cX4_requireTwoStations 21 = .ok (.new 247, 3) := by decide +kernel
set_option maxRecDepth 100000 in
theorem dX4_requireTwoStations_24 : decode cX4_requireTwoStations 24 = .ok (.dup, 1) := by decide +kernel
set_option maxRecDepth 100000 in
theorem dX4_requireTwoStations_25 : decode cX4_requireTwoStations 25 = .ok (.ldc 252, 2) := by decide +kernel
set_option maxRecDepth 100000 in
theorem dX4_requireTwoStations_27 : decode cX4_requireTwoStations 27 = .ok (.invokespecial 251, 3) := by decide +kernel
set_option maxRecDepth 100000 in
theorem dX4_requireTwoStations_30 : decode cX4_requireTwoStations 30 = .ok (.athrow, 1) := by decide +kernel
set_option maxRecDepth 100000 in
theorem th_X4_requireTwoStations_IOOBE : ∀ w ∈ (vx_atS RX4 251 "java/lang/IndexOutOfBoundsException" ["java/lang/RuntimeException", "java/lang/Exception"]).filter goodWord, w ∈ wsX4_requireTwoStations := fun _ h => List.mem_cons_of_mem _ (List.mem_append_right _ h)
set_option maxRecDepth 100000 in
theorem dX4_requireTwoStations_8 : decode cX4_requireTwoStations 8 = .ok (.iload_n 2, 1) := by decide +kernel
set_option maxRecDepth 100000 in
theorem dX4_requireTwoStations_9 : decode cX4_requireTwoStations 9 = .ok (.iconst 5, 1) := by decide +kernel
set_option maxRecDepth 100000 in
theorem dX4_requireTwoStations_10 : decode cX4_requireTwoStations 10 = .ok (.invokestatic 46, 3) := by decide +kernel
set_option maxRecDepth 100000 in
theorem dX4_requireTwoStations_13 : decode cX4_requireTwoStations 13 = .ok (.ifCond .eq 8, 3) := by decide +kernel
set_option maxRecDepth 100000 in
theorem dX4_requireTwoStations_16 : decode cX4_requireTwoStations 16 = .ok (.iload_n 1, 1) := by decide +kernel
set_option maxRecDepth 100000 in
theorem dX4_requireTwoStations_17 : decode cX4_requireTwoStations 17 = .ok (.iload_n 2, 1) := by decide +kernel
set_option maxRecDepth 100000 in
theorem dX4_requireTwoStations_18 : decode cX4_requireTwoStations 18 = .ok (.if_icmp .ne 13, 3) := by decide +kernel
set_option maxRecDepth 100000 in
theorem dX4_requireTwoStations_31 : decode cX4_requireTwoStations 31 = .ok (.return_, 1) := by decide +kernel
set_option maxRecDepth 100000 in
theorem dX4_requireLetter_0 : decode cX4_requireLetter 0 = .ok (.iload_n 1, 1) := by decide +kernel
set_option maxRecDepth 100000 in
theorem dX4_requireLetter_1 : decode cX4_requireLetter 1 = .ok (.aload_n 0, 1) := by decide +kernel
set_option maxRecDepth 100000 in
theorem dX4_requireLetter_2 : decode cX4_requireLetter 2 = .ok (.getfield 22, 3) := by decide +kernel
set_option maxRecDepth 100000 in
theorem in_X4_requireLetter_X4 : ∀ w ∈ wsX40, w ∈ wsX4_requireLetter := fun _ h => List.mem_cons_of_mem _ (List.mem_append_left _ (List.mem_append_left _ (List.mem_append_right _ h)))
set_option maxRecDepth 100000 in
theorem dX4_requireLetter_5 : decode cX4_requireLetter 5 = .ok (.invokevirtual 175, 3) := by decide +kernel
set_option maxRecDepth 20000 in
theorem ggX4_requireLetter_Jx4a65c_size_8abf5 : GoodIn wsX4_requireLetter wsJx4a65c_size_8abf5 := goodIn_r _ [8, 9, 18, 19, 20] (by decide +kernel) (by decide +kernel)
set_option maxRecDepth 20000 in
theorem gX4_requireLetter_Jx4a65c_size_8abf5 : GoodIn wsX4_requireLetter (wsV RX4 175 RJx4a65c yJx4a65c_size_8abf5 wsJx4a65c_size_8abf5) := goodIn_app (goodIn_of _ (by decide +kernel)) ggX4_requireLetter_Jx4a65c_size_8abf5
set_option maxRecDepth 100000 in
theorem dX4_requireLetter_8 : decode cX4_requireLetter 8 = .ok (.invokestatic 46, 3) := by decide +kernel
set_option maxRecDepth 20000 in
theorem ggX4_requireLetter_X4_isBelow : GoodIn wsX4_requireLetter wsX4_isBelow := goodIn_r _ [13] (by decide +kernel) (by decide +kernel)
set_option maxRecDepth 20000 in
theorem gX4_requireLetter_X4_isBelow : GoodIn wsX4_requireLetter (va_wsS RX4 46 yX4_isBelow wsX4_isBelow) := goodIn_app (goodIn_of _ (by decide +kernel)) ggX4_requireLetter_X4_isBelow
set_option maxRecDepth 100000 in
theorem dX4_requireLetter_11 : decode cX4_requireLetter 11 = .ok (.ifCond .ne 13, 3) := by decide +kernel
set_option maxRecDepth 100000 in
theorem dX4_requireLetter_14 : decode cX4_requireLetter 14 = .ok (.new 247, 3) := by decide +kernel
set_option maxRecDepth 100000 in
theorem dX4_requireLetter_17 : decode cX4_requireLetter 17 = .ok (.dup, 1) := by decide +kernel
set_option maxRecDepth 100000 in
theorem dX4_requireLetter_18 : decode cX4_requireLetter 18 = .ok (.ldc 254, 2) := by decide +kernel
set_option maxRecDepth 100000 in
theorem dX4_requireLetter_20 : decode cX4_requireLetter 20 = .ok (.invokespecial 251, 3) := by decide +kernel
set_option maxRecDepth 100000 in
theorem dX4_requireLetter_23 : decode cX4_requireLetter 23 = .ok (.athrow, 1) := by decide +kernel
set_option maxRecDepth 100000 in
theorem th_X4_requireLetter_IOOBE : ∀ w ∈ (vx_atS RX4 251 "java/lang/IndexOutOfBoundsException" ["java/lang/RuntimeException", "java/lang/Exception"]).filter goodWord, w ∈ wsX4_requireLetter := fun _ h => List.mem_cons_of_mem _ (List.mem_append_right _ h)
set_option maxRecDepth 100000 in
theorem dX4_letterAt_0 : decode cX4_letterAt 0 = .ok (.aload_n 0, 1) := by decide +kernel
set_option maxRecDepth 100000 in
theorem dX4_letterAt_1 : decode cX4_letterAt 1 = .ok (.iload_n 1, 1) := by decide +kernel
set_option maxRecDepth 100000 in
theorem dX4_letterAt_2 : decode cX4_letterAt 2 = .ok (.invokevirtual 210, 3) := by decide +kernel
set_option maxRecDepth 20000 in
theorem ggX4_letterAt_X4_requireLetter : GoodIn wsX4_letterAt wsX4_requireLetter := goodIn_ca (goodIn_r _ [7, 8, 9, 1, 10, 11, 12, 13, 14, 15, 16, 17, 6, 18, 36, 37, 38, 39, 40, 41, 42] (by decide +kernel) (by decide +kernel)) (goodIn_sub (fun _ h => List.mem_cons_of_mem _ (List.mem_append_right _ h)) (by decide +kernel))
set_option maxRecDepth 20000 in
theorem gX4_letterAt_X4_requireLetter : GoodIn wsX4_letterAt (wsV RX4 210 RX4 yX4_requireLetter wsX4_requireLetter) := goodIn_app (goodIn_of _ (by decide +kernel)) ggX4_letterAt_X4_requireLetter
set_option maxRecDepth 100000 in
theorem dX4_lose_0 : decode cX4_lose 0 = .ok (.aload_n 0, 1) := by decide +kernel
set_option maxRecDepth 100000 in
theorem dX4_lose_1 : decode cX4_lose 1 = .ok (.iload_n 1, 1) := by decide +kernel
set_option maxRecDepth 100000 in
theorem dX4_lose_2 : decode cX4_lose 2 = .ok (.invokevirtual 210, 3) := by decide +kernel
set_option maxRecDepth 20000 in
theorem ggX4_lose_X4_requireLetter : GoodIn wsX4_lose wsX4_requireLetter := goodIn_ca (goodIn_r _ [6, 7, 8, 1, 9, 10, 11, 12, 13, 14, 15, 16, 5, 17, 41, 42, 43, 44, 45, 46, 47] (by decide +kernel) (by decide +kernel)) (goodIn_sub (fun _ h => List.mem_cons_of_mem _ (List.mem_append_right _ h)) (by decide +kernel))
set_option maxRecDepth 20000 in
theorem gX4_lose_X4_requireLetter : GoodIn wsX4_lose (wsV RX4 210 RX4 yX4_requireLetter wsX4_requireLetter) := goodIn_app (goodIn_of _ (by decide +kernel)) ggX4_lose_X4_requireLetter
set_option maxRecDepth 100000 in
theorem dX4_twin_0 : decode cX4_twin 0 = .ok (.aload_n 0, 1) := by decide +kernel
set_option maxRecDepth 100000 in
theorem dX4_twin_1 : decode cX4_twin 1 = .ok (.iload_n 1, 1) := by decide +kernel
set_option maxRecDepth 100000 in
theorem dX4_twin_2 : decode cX4_twin 2 = .ok (.invokevirtual 178, 3) := by decide +kernel
set_option maxRecDepth 20000 in
theorem ggX4_twin_X4_letterAt : GoodIn wsX4_twin wsX4_letterAt := goodIn_ca (goodIn_r _ [6, 1, 7, 8, 9, 10, 5, 11, 12, 13, 14, 15, 16, 17, 18, 19, 20, 21, 22, 23, 24, 25, 26, 27, 28, 29, 30, 31, 32, 33, 34, 35, 36, 37, 38, 39, 99, 100, 101, 102, 103, 104, 105] (by decide +kernel) (by decide +kernel)) (goodIn_sub (fun _ h => List.mem_cons_of_mem _ (List.mem_append_left _ (List.mem_append_right _ h))) (by decide +kernel))
set_option maxRecDepth 20000 in
theorem gX4_twin_X4_letterAt : GoodIn wsX4_twin (wsV RX4 178 RX4 yX4_letterAt wsX4_letterAt) := goodIn_app (goodIn_of _ (by decide +kernel)) ggX4_twin_X4_letterAt
set_option maxRecDepth 100000 in
theorem dX4_letter_0 : decode cX4_letter 0 = .ok (.aload_n 0, 1) := by decide +kernel
set_option maxRecDepth 100000 in
theorem dX4_letter_1 : decode cX4_letter 1 = .ok (.iload_n 1, 1) := by decide +kernel
set_option maxRecDepth 100000 in
theorem dX4_letter_2 : decode cX4_letter 2 = .ok (.invokevirtual 178, 3) := by decide +kernel
set_option maxRecDepth 20000 in
theorem ggX4_letter_X4_letterAt : GoodIn wsX4_letter wsX4_letterAt := goodIn_ca (goodIn_r _ [7, 8, 9, 10, 11, 12, 6, 13, 14, 15, 16, 17, 18, 19, 20, 21, 22, 23, 24, 25, 26, 27, 28, 29, 30, 31, 32, 33, 34, 35, 36, 37, 38, 39, 40, 41, 47, 48, 49, 50, 51, 52, 53] (by decide +kernel) (by decide +kernel)) (goodIn_sub (fun _ h => List.mem_cons_of_mem _ (List.mem_append_right _ h)) (by decide +kernel))
set_option maxRecDepth 20000 in
theorem gX4_letter_X4_letterAt : GoodIn wsX4_letter (wsV RX4 178 RX4 yX4_letterAt wsX4_letterAt) := goodIn_app (goodIn_of _ (by decide +kernel)) ggX4_letter_X4_letterAt
set_option maxRecDepth 100000 in
theorem dX4_deliver_0 : decode cX4_deliver 0 = .ok (.aload_n 0, 1) := by decide +kernel
set_option maxRecDepth 100000 in
theorem dX4_deliver_1 : decode cX4_deliver 1 = .ok (.iload_n 1, 1) := by decide +kernel
set_option maxRecDepth 100000 in
theorem dX4_deliver_2 : decode cX4_deliver 2 = .ok (.invokevirtual 178, 3) := by decide +kernel
set_option maxRecDepth 20000 in
theorem ggX4_deliver_X4_letterAt : GoodIn wsX4_deliver wsX4_letterAt := goodIn_ca (goodIn_r _ [9, 4, 10, 11, 12, 13, 8, 14, 15, 16, 17, 18, 19, 20, 21, 22, 23, 24, 25, 26, 27, 28, 29, 30, 31, 32, 33, 34, 35, 36, 37, 38, 39, 40, 41, 42, 246, 247, 248, 249, 263, 264, 265] (by decide +kernel) (by decide +kernel)) (goodIn_sub (fun _ h => List.mem_cons_of_mem _ (List.mem_append_left _ (List.mem_append_right _ h))) (by decide +kernel))
set_option maxRecDepth 20000 in
theorem gX4_deliver_X4_letterAt : GoodIn wsX4_deliver (wsV RX4 178 RX4 yX4_letterAt wsX4_letterAt) := goodIn_app (goodIn_of _ (by decide +kernel)) ggX4_deliver_X4_letterAt
set_option maxRecDepth 100000 in
theorem dX4_letters_0 : decode cX4_letters 0 = .ok (.aload_n 0, 1) := by decide +kernel
set_option maxRecDepth 100000 in
theorem dX4_letters_1 : decode cX4_letters 1 = .ok (.getfield 22, 3) := by decide +kernel
set_option maxRecDepth 100000 in
theorem in_X4_letters_X4 : ∀ w ∈ wsX40, w ∈ wsX4_letters := fun _ h => List.mem_cons_of_mem _ (List.mem_append_left _ (List.mem_append_right _ h))
set_option maxRecDepth 100000 in
theorem dX4_letters_4 : decode cX4_letters 4 = .ok (.invokevirtual 175, 3) := by decide +kernel
set_option maxRecDepth 20000 in
theorem ggX4_letters_Jx4a65c_size_8abf5 : GoodIn wsX4_letters wsJx4a65c_size_8abf5 := goodIn_r _ [6, 7, 12, 13, 14] (by decide +kernel) (by decide +kernel)
set_option maxRecDepth 20000 in
theorem gX4_letters_Jx4a65c_size_8abf5 : GoodIn wsX4_letters (wsV RX4 175 RJx4a65c yJx4a65c_size_8abf5 wsJx4a65c_size_8abf5) := goodIn_app (goodIn_of _ (by decide +kernel)) ggX4_letters_Jx4a65c_size_8abf5
set_option maxRecDepth 100000 in
theorem dX4_letters_7 : decode cX4_letters 7 = .ok (.ireturn, 1) := by decide +kernel
set_option maxRecDepth 100000 in
theorem dX4_openWriteOf_0 : decode cX4_openWriteOf 0 = .ok (.aload_n 1, 1) := by decide +kernel
set_option maxRecDepth 100000 in
theorem dX4_openWriteOf_1 : decode cX4_openWriteOf 1 = .ok (.getfield 81, 3) := by decide +kernel
set_option maxRecDepth 100000 in
theorem in_X4_openWriteOf_X3 : ∀ w ∈ wsX30, w ∈ wsX4_openWriteOf := fun _ h => List.mem_cons_of_mem _ (List.mem_append_left _ (List.mem_append_right _ h))
set_option maxRecDepth 100000 in
theorem dX4_openWriteOf_4 : decode cX4_openWriteOf 4 = .ok (.astore_n 2, 1) := by decide +kernel
set_option maxRecDepth 100000 in
theorem dX4_openWriteOf_5 : decode cX4_openWriteOf 5 = .ok (.aload_n 2, 1) := by decide +kernel
set_option maxRecDepth 100000 in
theorem dX4_openWriteOf_6 : decode cX4_openWriteOf 6 = .ok (.ifnonnull 14, 3) := by decide +kernel
set_option maxRecDepth 100000 in
theorem dX4_openWriteOf_9 : decode cX4_openWriteOf 9 = .ok (.new 91, 3) := by decide +kernel
set_option maxRecDepth 100000 in
theorem dX4_openWriteOf_12 : decode cX4_openWriteOf 12 = .ok (.dup, 1) := by decide +kernel
set_option maxRecDepth 100000 in
theorem dX4_openWriteOf_13 : decode cX4_openWriteOf 13 = .ok (.ldc_w 259, 3) := by decide +kernel
set_option maxRecDepth 100000 in
theorem dX4_openWriteOf_16 : decode cX4_openWriteOf 16 = .ok (.invokespecial 95, 3) := by decide +kernel
set_option maxRecDepth 100000 in
theorem dX4_openWriteOf_19 : decode cX4_openWriteOf 19 = .ok (.athrow, 1) := by decide +kernel
set_option maxRecDepth 100000 in
theorem th_X4_openWriteOf_ISE : ∀ w ∈ (vx_atS RX4 95 "java/lang/IllegalStateException" ["java/lang/RuntimeException", "java/lang/Exception"]).filter goodWord, w ∈ wsX4_openWriteOf := fun _ h => List.mem_cons_of_mem _ (List.mem_append_right _ h)
set_option maxRecDepth 100000 in
theorem dX4_giveUp_0 : decode cX4_giveUp 0 = .ok (.aload_n 0, 1) := by decide +kernel
set_option maxRecDepth 100000 in
theorem dX4_giveUp_1 : decode cX4_giveUp 1 = .ok (.iload_n 1, 1) := by decide +kernel
set_option maxRecDepth 100000 in
theorem dX4_giveUp_2 : decode cX4_giveUp 2 = .ok (.invokevirtual 42, 3) := by decide +kernel
set_option maxRecDepth 20000 in
theorem ggX4_giveUp_X4_stationAt : GoodIn wsX4_giveUp wsX4_stationAt := goodIn_ca (goodIn_r _ [5, 6, 7, 8, 9, 10, 4, 11, 121, 122, 123, 124] (by decide +kernel) (by decide +kernel)) (goodIn_sub (fun _ h => List.mem_cons_of_mem _ (List.mem_append_left _ (List.mem_append_left _ (List.mem_append_right _ h)))) (by decide +kernel))
set_option maxRecDepth 20000 in
theorem gX4_giveUp_X4_stationAt : GoodIn wsX4_giveUp (wsV RX4 42 RX4 yX4_stationAt wsX4_stationAt) := goodIn_app (goodIn_of _ (by decide +kernel)) ggX4_giveUp_X4_stationAt
set_option maxRecDepth 100000 in
theorem dX4_giveUp_5 : decode cX4_giveUp 5 = .ok (.astore_n 2, 1) := by decide +kernel
set_option maxRecDepth 100000 in
theorem dX4_giveUp_6 : decode cX4_giveUp 6 = .ok (.aload_n 0, 1) := by decide +kernel
set_option maxRecDepth 100000 in
theorem dX4_giveUp_7 : decode cX4_giveUp 7 = .ok (.aload_n 2, 1) := by decide +kernel
set_option maxRecDepth 100000 in
theorem dX4_giveUp_8 : decode cX4_giveUp 8 = .ok (.invokevirtual 138, 3) := by decide +kernel
set_option maxRecDepth 20000 in
theorem ggX4_giveUp_X4_openWriteOf : GoodIn wsX4_giveUp wsX4_openWriteOf := goodIn_ca (goodIn_r _ [15, 16, 17, 108, 109, 110, 111, 112, 113, 114, 115] (by decide +kernel) (by decide +kernel)) (goodIn_sub (fun _ h => List.mem_cons_of_mem _ (List.mem_append_left _ (List.mem_append_right _ h))) (by decide +kernel))
set_option maxRecDepth 20000 in
theorem gX4_giveUp_X4_openWriteOf : GoodIn wsX4_giveUp (wsV RX4 138 RX4 yX4_openWriteOf wsX4_openWriteOf) := goodIn_app (goodIn_of _ (by decide +kernel)) ggX4_giveUp_X4_openWriteOf
set_option maxRecDepth 100000 in
theorem dX4_resend_0 : decode cX4_resend 0 = .ok (.aload_n 0, 1) := by decide +kernel
set_option maxRecDepth 100000 in
theorem dX4_resend_1 : decode cX4_resend 1 = .ok (.iload_n 1, 1) := by decide +kernel
set_option maxRecDepth 100000 in
theorem dX4_resend_2 : decode cX4_resend 2 = .ok (.invokevirtual 42, 3) := by decide +kernel
set_option maxRecDepth 20000 in
theorem ggX4_resend_X4_stationAt : GoodIn wsX4_resend wsX4_stationAt := goodIn_ca (goodIn_r _ [5, 6, 7, 8, 9, 10, 4, 11, 125, 126, 127, 128] (by decide +kernel) (by decide +kernel)) (goodIn_sub (fun _ h => List.mem_cons_of_mem _ (List.mem_append_left _ (List.mem_append_left _ (List.mem_append_right _ h)))) (by decide +kernel))
set_option maxRecDepth 20000 in
theorem gX4_resend_X4_stationAt : GoodIn wsX4_resend (wsV RX4 42 RX4 yX4_stationAt wsX4_stationAt) := goodIn_app (goodIn_of _ (by decide +kernel)) ggX4_resend_X4_stationAt
set_option maxRecDepth 100000 in
theorem dX4_resend_5 : decode cX4_resend 5 = .ok (.astore_n 2, 1) := by decide +kernel
set_option maxRecDepth 100000 in
theorem dX4_resend_6 : decode cX4_resend 6 = .ok (.aload_n 0, 1) := by decide +kernel
set_option maxRecDepth 100000 in
theorem dX4_resend_7 : decode cX4_resend 7 = .ok (.aload_n 2, 1) := by decide +kernel
set_option maxRecDepth 100000 in
theorem dX4_resend_8 : decode cX4_resend 8 = .ok (.invokevirtual 138, 3) := by decide +kernel
set_option maxRecDepth 20000 in
theorem ggX4_resend_X4_openWriteOf : GoodIn wsX4_resend wsX4_openWriteOf := goodIn_ca (goodIn_r _ [15, 16, 17, 129, 130, 131, 132, 133, 134, 135, 136] (by decide +kernel) (by decide +kernel)) (goodIn_sub (fun _ h => List.mem_cons_of_mem _ (List.mem_append_left _ (List.mem_append_right _ h))) (by decide +kernel))
set_option maxRecDepth 20000 in
theorem gX4_resend_X4_openWriteOf : GoodIn wsX4_resend (wsV RX4 138 RX4 yX4_openWriteOf wsX4_openWriteOf) := goodIn_app (goodIn_of _ (by decide +kernel)) ggX4_resend_X4_openWriteOf
set_option maxRecDepth 100000 in
theorem dX4_decide_0 : decode cX4_decide 0 = .ok (.aload_n 0, 1) := by decide +kernel
set_option maxRecDepth 100000 in
theorem dX4_decide_1 : decode cX4_decide 1 = .ok (.iload_n 1, 1) := by decide +kernel
set_option maxRecDepth 100000 in
theorem dX4_decide_2 : decode cX4_decide 2 = .ok (.invokevirtual 42, 3) := by decide +kernel
set_option maxRecDepth 20000 in
theorem ggX4_decide_X4_stationAt : GoodIn wsX4_decide wsX4_stationAt := goodIn_ca (goodIn_r _ [9, 10, 11, 12, 13, 14, 8, 15, 191, 192, 193, 194] (by decide +kernel) (by decide +kernel)) (goodIn_sub (fun _ h => List.mem_cons_of_mem _ (List.mem_append_right _ h)) (by decide +kernel))
set_option maxRecDepth 20000 in
theorem gX4_decide_X4_stationAt : GoodIn wsX4_decide (wsV RX4 42 RX4 yX4_stationAt wsX4_stationAt) := goodIn_app (goodIn_of _ (by decide +kernel)) ggX4_decide_X4_stationAt
set_option maxRecDepth 100000 in
theorem dX4_decide_5 : decode cX4_decide 5 = .ok (.astore_n 2, 1) := by decide +kernel
set_option maxRecDepth 100000 in
theorem dX4_decide_6 : decode cX4_decide 6 = .ok (.aload_n 2, 1) := by decide +kernel
set_option maxRecDepth 100000 in
theorem dX4_decide_7 : decode cX4_decide 7 = .ok (.getfield 81, 3) := by decide +kernel
set_option maxRecDepth 100000 in
theorem in_X4_decide_X3 : ∀ w ∈ wsX30, w ∈ wsX4_decide := fun _ h => List.mem_cons_of_mem _ (List.mem_append_left _ (List.mem_append_left _ (List.mem_append_left _ (List.mem_append_left _ (List.mem_append_left _ (List.mem_append_left _ (List.mem_append_left _ (List.mem_append_left _ (List.mem_append_right _ h)))))))))
set_option maxRecDepth 100000 in
theorem dX4_decide_10 : decode cX4_decide 10 = .ok (.astore_n 3, 1) := by decide +kernel
set_option maxRecDepth 100000 in
theorem dX4_decide_11 : decode cX4_decide 11 = .ok (.aload_n 3, 1) := by decide +kernel
set_option maxRecDepth 100000 in
theorem dX4_decide_12 : decode cX4_decide 12 = .ok (.ifnull 10, 3) := by decide +kernel
set_option maxRecDepth 100000 in
theorem dX4_decide_22 : decode cX4_decide 22 = .ok (.new 91, 3) := by decide +kernel
set_option maxRecDepth 100000 in
theorem dX4_decide_25 : decode cX4_decide 25 = .ok (.dup, 1) := by decide +kernel
set_option maxRecDepth 100000 in
theorem dX4_decide_26 : decode cX4_decide 26 = .ok (.ldc 93, 2) := by decide +kernel
set_option maxRecDepth 100000 in
theorem dX4_decide_28 : decode cX4_decide 28 = .ok (.invokespecial 95, 3) := by decide +kernel
set_option maxRecDepth 100000 in
theorem dX4_decide_31 : decode cX4_decide 31 = .ok (.athrow, 1) := by decide +kernel
set_option maxRecDepth 100000 in
theorem th_X4_decide_ISE : ∀ w ∈ (vx_atS RX4 95 "java/lang/IllegalStateException" ["java/lang/RuntimeException", "java/lang/Exception"]).filter goodWord, w ∈ wsX4_decide := fun _ h => List.mem_cons_of_mem _ (List.mem_append_left _ (List.mem_append_left _ (List.mem_append_right _ h)))
set_option maxRecDepth 100000 in
theorem dX4_unlock_0 : decode cX4_unlock 0 = .ok (.aload_n 0, 1) := by decide +kernel
set_option maxRecDepth 100000 in
theorem dX4_unlock_1 : decode cX4_unlock 1 = .ok (.iload_n 1, 1) := by decide +kernel
set_option maxRecDepth 100000 in
theorem dX4_unlock_2 : decode cX4_unlock 2 = .ok (.invokevirtual 42, 3) := by decide +kernel
set_option maxRecDepth 20000 in
theorem ggX4_unlock_X4_stationAt : GoodIn wsX4_unlock wsX4_stationAt := goodIn_ca (goodIn_r _ [7, 8, 9, 10, 11, 12, 6, 13, 22, 23, 24, 25] (by decide +kernel) (by decide +kernel)) (goodIn_sub (fun _ h => List.mem_cons_of_mem _ (List.mem_append_right _ h)) (by decide +kernel))
set_option maxRecDepth 20000 in
theorem gX4_unlock_X4_stationAt : GoodIn wsX4_unlock (wsV RX4 42 RX4 yX4_stationAt wsX4_stationAt) := goodIn_app (goodIn_of _ (by decide +kernel)) ggX4_unlock_X4_stationAt
set_option maxRecDepth 100000 in
theorem dX4_unlock_5 : decode cX4_unlock 5 = .ok (.astore_n 2, 1) := by decide +kernel
set_option maxRecDepth 100000 in
theorem dX4_unlock_6 : decode cX4_unlock 6 = .ok (.aload_n 2, 1) := by decide +kernel
set_option maxRecDepth 100000 in
theorem dX4_unlock_7 : decode cX4_unlock 7 = .ok (.getfield 155, 3) := by decide +kernel
set_option maxRecDepth 100000 in
theorem in_X4_unlock_X3 : ∀ w ∈ wsX30, w ∈ wsX4_unlock := fun _ h => List.mem_cons_of_mem _ (List.mem_append_left _ (List.mem_append_left _ (List.mem_append_left _ (List.mem_append_right _ h))))
set_option maxRecDepth 100000 in
theorem dX4_unlock_10 : decode cX4_unlock 10 = .ok (.iconst (-1), 1) := by decide +kernel
set_option maxRecDepth 100000 in
theorem dX4_unlock_11 : decode cX4_unlock 11 = .ok (.if_icmp .eq 10, 3) := by decide +kernel
set_option maxRecDepth 100000 in
theorem dX4_unlock_21 : decode cX4_unlock 21 = .ok (.new 91, 3) := by decide +kernel
set_option maxRecDepth 100000 in
theorem dX4_unlock_24 : decode cX4_unlock 24 = .ok (.dup, 1) := by decide +kernel
set_option maxRecDepth 100000 in
theorem dX4_unlock_25 : decode cX4_unlock 25 = .ok (.ldc 158, 2) := by decide +kernel
set_option maxRecDepth 100000 in
theorem dX4_unlock_27 : decode cX4_unlock 27 = .ok (.invokespecial 95, 3) := by decide +kernel
set_option maxRecDepth 100000 in
theorem dX4_unlock_30 : decode cX4_unlock 30 = .ok (.athrow, 1) := by decide +kernel
set_option maxRecDepth 100000 in
theorem th_X4_unlock_ISE : ∀ w ∈ (vx_atS RX4 95 "java/lang/IllegalStateException" ["java/lang/RuntimeException", "java/lang/Exception"]).filter goodWord, w ∈ wsX4_unlock := fun _ h => List.mem_cons_of_mem _ (List.mem_append_left _ (List.mem_append_right _ h))
set_option maxRecDepth 100000 in
theorem dX4_stop_0 : decode cX4_stop 0 = .ok (.aload_n 0, 1) := by decide +kernel
set_option maxRecDepth 100000 in
theorem dX4_stop_1 : decode cX4_stop 1 = .ok (.iload_n 1, 1) := by decide +kernel
set_option maxRecDepth 100000 in
theorem dX4_stop_2 : decode cX4_stop 2 = .ok (.invokevirtual 42, 3) := by decide +kernel
set_option maxRecDepth 20000 in
theorem ggX4_stop_X4_stationAt : GoodIn wsX4_stop wsX4_stationAt := goodIn_ca (goodIn_r _ [5, 6, 7, 8, 9, 10, 4, 11, 26, 27, 28, 29] (by decide +kernel) (by decide +kernel)) (goodIn_sub (fun _ h => List.mem_cons_of_mem _ (List.mem_append_right _ h)) (by decide +kernel))
set_option maxRecDepth 20000 in
theorem gX4_stop_X4_stationAt : GoodIn wsX4_stop (wsV RX4 42 RX4 yX4_stationAt wsX4_stationAt) := goodIn_app (goodIn_of _ (by decide +kernel)) ggX4_stop_X4_stationAt
set_option maxRecDepth 100000 in
theorem dX4_stop_5 : decode cX4_stop 5 = .ok (.astore_n 2, 1) := by decide +kernel
set_option maxRecDepth 100000 in
theorem dX4_stop_6 : decode cX4_stop 6 = .ok (.aload_n 2, 1) := by decide +kernel
set_option maxRecDepth 100000 in
theorem dX4_stop_7 : decode cX4_stop 7 = .ok (.getfield 160, 3) := by decide +kernel
set_option maxRecDepth 100000 in
theorem in_X4_stop_X3 : ∀ w ∈ wsX30, w ∈ wsX4_stop := fun _ h => List.mem_cons_of_mem _ (List.mem_append_left _ (List.mem_append_left _ (List.mem_append_right _ h)))
set_option maxRecDepth 100000 in
theorem dX4_stop_10 : decode cX4_stop 10 = .ok (.istore_n 3, 1) := by decide +kernel
set_option maxRecDepth 100000 in
theorem dX4_stop_11 : decode cX4_stop 11 = .ok (.aload_n 2, 1) := by decide +kernel
set_option maxRecDepth 100000 in
theorem dX4_stop_12 : decode cX4_stop 12 = .ok (.iconst 0, 1) := by decide +kernel
set_option maxRecDepth 100000 in
theorem dX4_stop_13 : decode cX4_stop 13 = .ok (.putfield 160, 3) := by decide +kernel
set_option maxRecDepth 100000 in
theorem dX4_stop_16 : decode cX4_stop 16 = .ok (.aload_n 2, 1) := by decide +kernel
set_option maxRecDepth 100000 in
theorem dX4_stop_17 : decode cX4_stop 17 = .ok (.invokevirtual 142, 3) := by decide +kernel
set_option maxRecDepth 20000 in
theorem ggX4_stop_X3_forgetWrite : GoodIn wsX4_stop wsX3_forgetWrite := goodIn_r _ [15, 16, 17, 18, 19, 20, 21, 22, 23, 24, 25] (by decide +kernel) (by decide +kernel)
set_option maxRecDepth 20000 in
theorem gX4_stop_X3_forgetWrite_n142 : GoodIn wsX4_stop (wsX3_forgetWrite) := ggX4_stop_X3_forgetWrite
set_option maxRecDepth 100000 in
theorem dX4_stop_20 : decode cX4_stop 20 = .ok (.iload_n 3, 1) := by decide +kernel
set_option maxRecDepth 100000 in
theorem dX4_stop_21 : decode cX4_stop 21 = .ok (.ireturn, 1) := by decide +kernel
set_option maxRecDepth 100000 in
theorem dX4_start_0 : decode cX4_start 0 = .ok (.aload_n 0, 1) := by decide +kernel
set_option maxRecDepth 100000 in
theorem dX4_start_1 : decode cX4_start 1 = .ok (.iload_n 1, 1) := by decide +kernel
set_option maxRecDepth 100000 in
theorem dX4_start_2 : decode cX4_start 2 = .ok (.invokevirtual 42, 3) := by decide +kernel
set_option maxRecDepth 20000 in
theorem ggX4_start_X4_stationAt : GoodIn wsX4_start wsX4_stationAt := goodIn_ca (goodIn_r _ [5, 6, 7, 8, 9, 10, 4, 11, 26, 27, 28, 29] (by decide +kernel) (by decide +kernel)) (goodIn_sub (fun _ h => List.mem_cons_of_mem _ (List.mem_append_right _ h)) (by decide +kernel))
set_option maxRecDepth 20000 in
theorem gX4_start_X4_stationAt : GoodIn wsX4_start (wsV RX4 42 RX4 yX4_stationAt wsX4_stationAt) := goodIn_app (goodIn_of _ (by decide +kernel)) ggX4_start_X4_stationAt
set_option maxRecDepth 100000 in
theorem dX4_start_5 : decode cX4_start 5 = .ok (.astore_n 2, 1) := by decide +kernel
set_option maxRecDepth 100000 in
theorem dX4_start_6 : decode cX4_start 6 = .ok (.aload_n 2, 1) := by decide +kernel
set_option maxRecDepth 100000 in
theorem dX4_start_7 : decode cX4_start 7 = .ok (.getfield 160, 3) := by decide +kernel
set_option maxRecDepth 100000 in
theorem in_X4_start_X3 : ∀ w ∈ wsX30, w ∈ wsX4_start := fun _ h => List.mem_cons_of_mem _ (List.mem_append_left _ (List.mem_append_left _ (List.mem_append_right _ h)))
set_option maxRecDepth 100000 in
theorem dX4_start_10 : decode cX4_start 10 = .ok (.ifCond .ne 7, 3) := by decide +kernel
set_option maxRecDepth 100000 in
theorem dX4_start_17 : decode cX4_start 17 = .ok (.iconst 0, 1) := by decide +kernel
set_option maxRecDepth 100000 in
theorem dX4_start_18 : decode cX4_start 18 = .ok (.istore_n 3, 1) := by decide +kernel
set_option maxRecDepth 100000 in
theorem dX4_start_19 : decode cX4_start 19 = .ok (.aload_n 2, 1) := by decide +kernel
set_option maxRecDepth 100000 in
theorem dX4_start_20 : decode cX4_start 20 = .ok (.iconst 1, 1) := by decide +kernel
set_option maxRecDepth 100000 in
theorem dX4_start_21 : decode cX4_start 21 = .ok (.putfield 160, 3) := by decide +kernel
set_option maxRecDepth 100000 in
theorem dX4_start_24 : decode cX4_start 24 = .ok (.aload_n 2, 1) := by decide +kernel
set_option maxRecDepth 100000 in
theorem dX4_start_25 : decode cX4_start 25 = .ok (.invokevirtual 142, 3) := by decide +kernel
set_option maxRecDepth 20000 in
theorem ggX4_start_X3_forgetWrite : GoodIn wsX4_start wsX3_forgetWrite := goodIn_r _ [15, 16, 17, 18, 19, 20, 21, 22, 23, 24, 25] (by decide +kernel) (by decide +kernel)
set_option maxRecDepth 20000 in
theorem gX4_start_X3_forgetWrite_n142 : GoodIn wsX4_start (wsX3_forgetWrite) := ggX4_start_X3_forgetWrite
set_option maxRecDepth 100000 in
theorem dX4_start_28 : decode cX4_start 28 = .ok (.iload_n 3, 1) := by decide +kernel
set_option maxRecDepth 100000 in
theorem dX4_start_29 : decode cX4_start 29 = .ok (.ireturn, 1) := by decide +kernel
set_option maxRecDepth 100000 in
theorem dX4_ask_0 : decode cX4_ask 0 = .ok (.aload_n 0, 1) := by decide +kernel
set_option maxRecDepth 100000 in
theorem dX4_ask_1 : decode cX4_ask 1 = .ok (.iload_n 1, 1) := by decide +kernel
set_option maxRecDepth 100000 in
theorem dX4_ask_2 : decode cX4_ask 2 = .ok (.iload_n 2, 1) := by decide +kernel
set_option maxRecDepth 100000 in
theorem dX4_ask_3 : decode cX4_ask 3 = .ok (.invokevirtual 38, 3) := by decide +kernel
set_option maxRecDepth 20000 in
theorem ggX4_ask_X4_requireTwoStations : GoodIn wsX4_ask wsX4_requireTwoStations := goodIn_ca (goodIn_r _ [8, 9, 10, 11, 12, 7, 13] (by decide +kernel) (by decide +kernel)) (goodIn_sub (fun _ h => List.mem_cons_of_mem _ (List.mem_append_left _ (List.mem_append_right _ h))) (by decide +kernel))
set_option maxRecDepth 20000 in
theorem gX4_ask_X4_requireTwoStations : GoodIn wsX4_ask (wsV RX4 38 RX4 yX4_requireTwoStations wsX4_requireTwoStations) := goodIn_app (goodIn_of _ (by decide +kernel)) ggX4_ask_X4_requireTwoStations
set_option maxRecDepth 100000 in
theorem dX4_ask_6 : decode cX4_ask 6 = .ok (.aload_n 0, 1) := by decide +kernel
set_option maxRecDepth 100000 in
theorem dX4_ask_7 : decode cX4_ask 7 = .ok (.getfield 11, 3) := by decide +kernel
set_option maxRecDepth 100000 in
theorem in_X4_ask_X4 : ∀ w ∈ wsX40, w ∈ wsX4_ask := fun _ h => List.mem_cons_of_mem _ (List.mem_append_left _ (List.mem_append_left _ (List.mem_append_left _ (List.mem_append_left _ (List.mem_append_left _ (List.mem_append_left _ (List.mem_append_right _ h)))))))
set_option maxRecDepth 100000 in
theorem dX4_ask_10 : decode cX4_ask 10 = .ok (.iload_n 1, 1) := by decide +kernel
set_option maxRecDepth 100000 in
theorem dX4_ask_11 : decode cX4_ask 11 = .ok (.aaload, 1) := by decide +kernel
set_option maxRecDepth 100000 in
theorem dX4_ask_12 : decode cX4_ask 12 = .ok (.astore_n 3, 1) := by decide +kernel
set_option maxRecDepth 100000 in
theorem dX4_ask_13 : decode cX4_ask 13 = .ok (.aload_n 3, 1) := by decide +kernel
set_option maxRecDepth 100000 in
theorem dX4_ask_14 : decode cX4_ask 14 = .ok (.getfield 160, 3) := by decide +kernel
set_option maxRecDepth 100000 in
theorem in_X4_ask_X3 : ∀ w ∈ wsX30, w ∈ wsX4_ask := fun _ h => List.mem_cons_of_mem _ (List.mem_append_left _ (List.mem_append_left _ (List.mem_append_left _ (List.mem_append_left _ (List.mem_append_left _ (List.mem_append_right _ h))))))
set_option maxRecDepth 100000 in
theorem dX4_ask_17 : decode cX4_ask 17 = .ok (.ifCond .eq 10, 3) := by decide +kernel
set_option maxRecDepth 100000 in
theorem dX4_ask_20 : decode cX4_ask 20 = .ok (.aload_n 3, 1) := by decide +kernel
set_option maxRecDepth 100000 in
theorem dX4_ask_21 : decode cX4_ask 21 = .ok (.invokevirtual 164, 3) := by decide +kernel
set_option maxRecDepth 20000 in
theorem ggX4_ask_X3_isInDoubt : GoodIn wsX4_ask wsX3_isInDoubt := goodIn_r _ [17, 18, 107, 108, 109, 110, 111, 112, 113, 114] (by decide +kernel) (by decide +kernel)
set_option maxRecDepth 20000 in
theorem gX4_ask_X3_isInDoubt_n164 : GoodIn wsX4_ask (wsX3_isInDoubt) := ggX4_ask_X3_isInDoubt
set_option maxRecDepth 100000 in
theorem dX4_ask_24 : decode cX4_ask 24 = .ok (.ifCond .ne 13, 3) := by decide +kernel
set_option maxRecDepth 100000 in
theorem dX4_ask_27 : decode cX4_ask 27 = .ok (.new 91, 3) := by decide +kernel
set_option maxRecDepth 100000 in
theorem dX4_ask_30 : decode cX4_ask 30 = .ok (.dup, 1) := by decide +kernel
set_option maxRecDepth 100000 in
theorem dX4_ask_31 : decode cX4_ask 31 = .ok (.ldc 167, 2) := by decide +kernel
set_option maxRecDepth 100000 in
theorem dX4_ask_33 : decode cX4_ask 33 = .ok (.invokespecial 95, 3) := by decide +kernel
set_option maxRecDepth 100000 in
theorem dX4_ask_36 : decode cX4_ask 36 = .ok (.athrow, 1) := by decide +kernel
set_option maxRecDepth 100000 in
theorem th_X4_ask_ISE : ∀ w ∈ (vx_atS RX4 95 "java/lang/IllegalStateException" ["java/lang/RuntimeException", "java/lang/Exception"]).filter goodWord, w ∈ wsX4_ask := fun _ h => List.mem_cons_of_mem _ (List.mem_append_left _ (List.mem_append_left _ (List.mem_append_right _ h)))
set_option maxRecDepth 100000 in
theorem dX2_hasNoticeAt_0 : decode cX2_hasNoticeAt 0 = .ok (.iload_n 1, 1) := by decide +kernel
set_option maxRecDepth 100000 in
theorem dX2_hasNoticeAt_1 : decode cX2_hasNoticeAt 1 = .ok (.aload_n 0, 1) := by decide +kernel
set_option maxRecDepth 100000 in
theorem dX2_hasNoticeAt_2 : decode cX2_hasNoticeAt 2 = .ok (.getfield 7, 3) := by decide +kernel
set_option maxRecDepth 100000 in
theorem in_X2_hasNoticeAt_X2 : ∀ w ∈ wsX20, w ∈ wsX2_hasNoticeAt := fun _ h => List.mem_cons_of_mem _ (List.mem_append_right _ h)
set_option maxRecDepth 100000 in
theorem dX2_hasNoticeAt_5 : decode cX2_hasNoticeAt 5 = .ok (.arraylength, 1) := by decide +kernel
set_option maxRecDepth 100000 in
theorem dX2_hasNoticeAt_6 : decode cX2_hasNoticeAt 6 = .ok (.invokestatic 23, 3) := by decide +kernel
set_option maxRecDepth 20000 in
theorem ggX2_hasNoticeAt_X4_isBelow : GoodIn wsX2_hasNoticeAt wsX4_isBelow := goodIn_r _ [4] (by decide +kernel) (by decide +kernel)
set_option maxRecDepth 20000 in
theorem gX2_hasNoticeAt_X4_isBelow_n23 : GoodIn wsX2_hasNoticeAt (wsX4_isBelow) := ggX2_hasNoticeAt_X4_isBelow
set_option maxRecDepth 100000 in
theorem dX2_hasNoticeAt_9 : decode cX2_hasNoticeAt 9 = .ok (.ifCond .eq 16, 3) := by decide +kernel
set_option maxRecDepth 100000 in
theorem dX2_hasNoticeAt_25 : decode cX2_hasNoticeAt 25 = .ok (.iconst 0, 1) := by decide +kernel
set_option maxRecDepth 100000 in
theorem dX2_hasNoticeAt_26 : decode cX2_hasNoticeAt 26 = .ok (.ireturn, 1) := by decide +kernel
set_option maxRecDepth 100000 in
theorem dX4_withdraw_0 : decode cX4_withdraw 0 = .ok (.aload_n 0, 1) := by decide +kernel
set_option maxRecDepth 100000 in
theorem dX4_withdraw_1 : decode cX4_withdraw 1 = .ok (.iload_n 1, 1) := by decide +kernel
set_option maxRecDepth 100000 in
theorem dX4_withdraw_2 : decode cX4_withdraw 2 = .ok (.invokevirtual 42, 3) := by decide +kernel
set_option maxRecDepth 20000 in
theorem ggX4_withdraw_X4_stationAt : GoodIn wsX4_withdraw wsX4_stationAt := goodIn_ca (goodIn_r _ [7, 8, 9, 10, 11, 12, 6, 13, 165, 166, 167, 168] (by decide +kernel) (by decide +kernel)) (goodIn_sub (fun _ h => List.mem_cons_of_mem _ (List.mem_append_left _ (List.mem_append_left _ (List.mem_append_right _ h)))) (by decide +kernel))
set_option maxRecDepth 20000 in
theorem gX4_withdraw_X4_stationAt : GoodIn wsX4_withdraw (wsV RX4 42 RX4 yX4_stationAt wsX4_stationAt) := goodIn_app (goodIn_of _ (by decide +kernel)) ggX4_withdraw_X4_stationAt
set_option maxRecDepth 100000 in
theorem dX4_withdraw_5 : decode cX4_withdraw 5 = .ok (.astore_n 3, 1) := by decide +kernel
set_option maxRecDepth 100000 in
theorem dX4_withdraw_6 : decode cX4_withdraw 6 = .ok (.aload_n 3, 1) := by decide +kernel
set_option maxRecDepth 100000 in
theorem dX4_withdraw_7 : decode cX4_withdraw 7 = .ok (.getfield 61, 3) := by decide +kernel
set_option maxRecDepth 100000 in
theorem in_X4_withdraw_X3 : ∀ w ∈ wsX30, w ∈ wsX4_withdraw := fun _ h => List.mem_cons_of_mem _ (List.mem_append_left _ (List.mem_append_left _ (List.mem_append_left _ (List.mem_append_left _ (List.mem_append_left _ (List.mem_append_left _ (List.mem_append_left _ (List.mem_append_left _ (List.mem_append_left _ (List.mem_append_right _ h))))))))))
set_option maxRecDepth 100000 in
theorem dX4_withdraw_10 : decode cX4_withdraw 10 = .ok (.iload_n 2, 1) := by decide +kernel
set_option maxRecDepth 100000 in
theorem dX4_withdraw_11 : decode cX4_withdraw 11 = .ok (.invokevirtual 65, 3) := by decide +kernel
set_option maxRecDepth 20000 in
theorem ggX4_withdraw_X2_hasNoticeAt : GoodIn wsX4_withdraw wsX2_hasNoticeAt := goodIn_r _ [17, 18, 12, 6, 13, 169, 170, 171, 172] (by decide +kernel) (by decide +kernel)
set_option maxRecDepth 20000 in
theorem gX4_withdraw_X2_hasNoticeAt_n65 : GoodIn wsX4_withdraw (wsX2_hasNoticeAt) := ggX4_withdraw_X2_hasNoticeAt
set_option maxRecDepth 100000 in
theorem dX4_withdraw_14 : decode cX4_withdraw 14 = .ok (.ifCond .eq 14, 3) := by decide +kernel
set_option maxRecDepth 100000 in
theorem dX4_withdraw_28 : decode cX4_withdraw 28 = .ok (.new 72, 3) := by decide +kernel
set_option maxRecDepth 100000 in
theorem dX4_withdraw_31 : decode cX4_withdraw 31 = .ok (.dup, 1) := by decide +kernel
set_option maxRecDepth 100000 in
theorem dX4_withdraw_32 : decode cX4_withdraw 32 = .ok (.ldc 74, 2) := by decide +kernel
set_option maxRecDepth 100000 in
theorem dX4_withdraw_34 : decode cX4_withdraw 34 = .ok (.invokespecial 76, 3) := by decide +kernel
set_option maxRecDepth 100000 in
theorem dX4_withdraw_37 : decode cX4_withdraw 37 = .ok (.athrow, 1) := by decide +kernel
set_option maxRecDepth 100000 in
theorem th_X4_withdraw_NSEE : ∀ w ∈ (vx_atS RX4 76 "java/util/NoSuchElementException" ["java/lang/RuntimeException", "java/lang/Exception"]).filter goodWord, w ∈ wsX4_withdraw := fun _ h => List.mem_cons_of_mem _ (List.mem_append_left _ (List.mem_append_left _ (List.mem_append_left _ (List.mem_append_right _ h))))
set_option maxRecDepth 100000 in
theorem dX4_entry_0 : decode cX4_entry 0 = .ok (.aload_n 0, 1) := by decide +kernel
set_option maxRecDepth 100000 in
theorem dX4_entry_1 : decode cX4_entry 1 = .ok (.iload_n 1, 1) := by decide +kernel
set_option maxRecDepth 100000 in
theorem dX4_entry_2 : decode cX4_entry 2 = .ok (.invokevirtual 42, 3) := by decide +kernel
set_option maxRecDepth 20000 in
theorem ggX4_entry_X4_stationAt : GoodIn wsX4_entry wsX4_stationAt := goodIn_ca (goodIn_r _ [7, 8, 9, 10, 11, 12, 6, 13, 31, 32, 33, 34] (by decide +kernel) (by decide +kernel)) (goodIn_sub (fun _ h => List.mem_cons_of_mem _ (List.mem_append_right _ h)) (by decide +kernel))
set_option maxRecDepth 20000 in
theorem gX4_entry_X4_stationAt : GoodIn wsX4_entry (wsV RX4 42 RX4 yX4_stationAt wsX4_stationAt) := goodIn_app (goodIn_of _ (by decide +kernel)) ggX4_entry_X4_stationAt
set_option maxRecDepth 100000 in
theorem dX4_entry_5 : decode cX4_entry 5 = .ok (.getfield 61, 3) := by decide +kernel
set_option maxRecDepth 100000 in
theorem in_X4_entry_X3 : ∀ w ∈ wsX30, w ∈ wsX4_entry := fun _ h => List.mem_cons_of_mem _ (List.mem_append_left _ (List.mem_append_left _ (List.mem_append_left _ (List.mem_append_left _ (List.mem_append_right _ h)))))
set_option maxRecDepth 100000 in
theorem dX4_entry_8 : decode cX4_entry 8 = .ok (.astore 4, 2) := by decide +kernel
set_option maxRecDepth 100000 in
theorem dX4_entry_10 : decode cX4_entry 10 = .ok (.iload_n 2, 1) := by decide +kernel
set_option maxRecDepth 100000 in
theorem dX4_entry_11 : decode cX4_entry 11 = .ok (.aload 4, 2) := by decide +kernel
set_option maxRecDepth 100000 in
theorem dX4_entry_13 : decode cX4_entry 13 = .ok (.invokevirtual 107, 3) := by decide +kernel
set_option maxRecDepth 20000 in
theorem ggX4_entry_X2_length : GoodIn wsX4_entry wsX2_length := goodIn_r _ [17, 18, 27, 28, 29, 30] (by decide +kernel) (by decide +kernel)
set_option maxRecDepth 20000 in
theorem gX4_entry_X2_length_n107 : GoodIn wsX4_entry (wsX2_length) := ggX4_entry_X2_length
set_option maxRecDepth 100000 in
theorem dX4_entry_16 : decode cX4_entry 16 = .ok (.invokestatic 46, 3) := by decide +kernel
set_option maxRecDepth 20000 in
theorem ggX4_entry_X4_isBelow : GoodIn wsX4_entry wsX4_isBelow := goodIn_r _ [13] (by decide +kernel) (by decide +kernel)
set_option maxRecDepth 20000 in
theorem gX4_entry_X4_isBelow : GoodIn wsX4_entry (va_wsS RX4 46 yX4_isBelow wsX4_isBelow) := goodIn_app (goodIn_of _ (by decide +kernel)) ggX4_entry_X4_isBelow
set_option maxRecDepth 100000 in
theorem dX4_entry_19 : decode cX4_entry 19 = .ok (.ifCond .ne 13, 3) := by decide +kernel
set_option maxRecDepth 100000 in
theorem dX4_entry_22 : decode cX4_entry 22 = .ok (.new 72, 3) := by decide +kernel
set_option maxRecDepth 100000 in
theorem dX4_entry_25 : decode cX4_entry 25 = .ok (.dup, 1) := by decide +kernel
set_option maxRecDepth 100000 in
theorem dX4_entry_26 : decode cX4_entry 26 = .ok (.ldc 220, 2) := by decide +kernel
set_option maxRecDepth 100000 in
theorem dX4_entry_28 : decode cX4_entry 28 = .ok (.invokespecial 76, 3) := by decide +kernel
set_option maxRecDepth 100000 in
theorem dX4_entry_31 : decode cX4_entry 31 = .ok (.athrow, 1) := by decide +kernel
set_option maxRecDepth 100000 in
theorem th_X4_entry_NSEE : ∀ w ∈ (vx_atS RX4 76 "java/util/NoSuchElementException" ["java/lang/RuntimeException", "java/lang/Exception"]).filter goodWord, w ∈ wsX4_entry := fun _ h => List.mem_cons_of_mem _ (List.mem_append_left _ (List.mem_append_right _ h))
set_option maxRecDepth 100000 in
theorem dX4_inForce_0 : decode cX4_inForce 0 = .ok (.aload_n 0, 1) := by decide +kernel
set_option maxRecDepth 100000 in
theorem dX4_inForce_1 : decode cX4_inForce 1 = .ok (.iload_n 1, 1) := by decide +kernel
set_option maxRecDepth 100000 in
theorem dX4_inForce_2 : decode cX4_inForce 2 = .ok (.invokevirtual 42, 3) := by decide +kernel
set_option maxRecDepth 20000 in
theorem ggX4_inForce_X4_stationAt : GoodIn wsX4_inForce wsX4_stationAt := goodIn_ca (goodIn_r _ [5, 6, 7, 8, 9, 10, 4, 11, 40, 41, 42, 43] (by decide +kernel) (by decide +kernel)) (goodIn_sub (fun _ h => List.mem_cons_of_mem _ (List.mem_append_right _ h)) (by decide +kernel))
set_option maxRecDepth 20000 in
theorem gX4_inForce_X4_stationAt : GoodIn wsX4_inForce (wsV RX4 42 RX4 yX4_stationAt wsX4_stationAt) := goodIn_app (goodIn_of _ (by decide +kernel)) ggX4_inForce_X4_stationAt
set_option maxRecDepth 100000 in
theorem dX4_inForce_5 : decode cX4_inForce 5 = .ok (.getfield 61, 3) := by decide +kernel
set_option maxRecDepth 100000 in
theorem in_X4_inForce_X3 : ∀ w ∈ wsX30, w ∈ wsX4_inForce := fun _ h => List.mem_cons_of_mem _ (List.mem_append_left _ (List.mem_append_left _ (List.mem_append_left _ (List.mem_append_right _ h))))
set_option maxRecDepth 100000 in
theorem dX4_inForce_8 : decode cX4_inForce 8 = .ok (.astore 4, 2) := by decide +kernel
set_option maxRecDepth 100000 in
theorem dX4_inForce_10 : decode cX4_inForce 10 = .ok (.iconst 0, 1) := by decide +kernel
set_option maxRecDepth 100000 in
theorem dX4_inForce_11 : decode cX4_inForce 11 = .ok (.istore 5, 2) := by decide +kernel
set_option maxRecDepth 100000 in
theorem dX4_inForce_13 : decode cX4_inForce 13 = .ok (.iconst 0, 1) := by decide +kernel
set_option maxRecDepth 100000 in
theorem dX4_inForce_14 : decode cX4_inForce 14 = .ok (.istore 6, 2) := by decide +kernel
set_option maxRecDepth 100000 in
theorem dX4_inForce_16 : decode cX4_inForce 16 = .ok (.iload 6, 2) := by decide +kernel
set_option maxRecDepth 100000 in
theorem dX4_inForce_18 : decode cX4_inForce 18 = .ok (.aload 4, 2) := by decide +kernel
set_option maxRecDepth 100000 in
theorem dX4_inForce_20 : decode cX4_inForce 20 = .ok (.invokevirtual 107, 3) := by decide +kernel
set_option maxRecDepth 20000 in
theorem ggX4_inForce_X2_length : GoodIn wsX4_inForce wsX2_length := goodIn_r _ [15, 16, 36, 37, 38, 39] (by decide +kernel) (by decide +kernel)
set_option maxRecDepth 20000 in
theorem gX4_inForce_X2_length_n107 : GoodIn wsX4_inForce (wsX2_length) := ggX4_inForce_X2_length
set_option maxRecDepth 100000 in
theorem dX4_inForce_23 : decode cX4_inForce 23 = .ok (.if_icmp .ge 48, 3) := by decide +kernel
set_option maxRecDepth 100000 in
theorem dX4_inForce_71 : decode cX4_inForce 71 = .ok (.iload 5, 2) := by decide +kernel
set_option maxRecDepth 100000 in
theorem dX4_inForce_73 : decode cX4_inForce 73 = .ok (.ireturn, 1) := by decide +kernel
set_option maxHeartbeats 4000000 in
set_option maxRecDepth 100000 in
theorem c_X4_requireTwoStations (l : Launch) (hlt : l.stackTraces = false) (D : va_G) (tC : Nat → ClassId) (dz sz : Nat) (x : Nat) (a1 : Nat) (a2 : Nat) (a3 : Nat) (a4 : Nat) (p0 : Int32) (p1 : Int32)  : vx_Met l yX4_requireTwoStations wsX4_requireTwoStations ({ frames := 6, cells := 1, slots := 6, locals := 82 }) (va_Pc [.ref x, .int p0, .int p1] (pB D tC dz [(x, .inr (5, [.ref a1, .ref a2, .ref a3, .ref a4]))] sz)) (va_Qv (fun (_ : Unit) => ¬ ((p0 < 0 ∨ 5 ≤ p0) ∨ (p1 < 0 ∨ 5 ≤ p1) ∨ p0 = p1)) (fun (_ : Unit) t => pA D tC (va_A [(x, .inr (5, [.ref a1, .ref a2, .ref a3, .ref a4]))] sz) [(x, .inr (5, [.ref a1, .ref a2, .ref a3, .ref a4]))] t) (va_A [(x, .inr (5, [.ref a1, .ref a2, .ref a3, .ref a4]))] sz)) (xX (fun E => E = "java/lang/IndexOutOfBoundsException" ∧ ((p0 < 0 ∨ 5 ≤ p0) ∨ (p1 < 0 ∨ 5 ≤ p1) ∨ p0 = p1)) (va_A [(x, .inr (5, [.ref a1, .ref a2, .ref a3, .ref a4]))] sz)) 1 6 (va_A [(x, .inr (5, [.ref a1, .ref a2, .ref a3, .ref a4]))] sz) := by
  refine vx_ofW (cc := cX4_requireTwoStations) (maxL := 3) (ret := none) (by decide) rfl ?_
  intro p e s m args below meth c s₁ B hml hnx hv
  obtain ⟨rfl, hsz, hP, hK, hD0, hN, hE⟩ := hv
  have hx := B.exec
  have hb := B.bytes
  have hr := B.returns
  have hts := atoms_spec (ws := wsX4_requireTwoStations) B.pre
  have hown : s.vm.findClass RX4 = some m.cls := findClass_of_methodNamed B.named
  have hlocks := B.notSynchronized
  subst hsz
  have hD := hD0.self (sz := s.heap.size)
  generalize hAe : va_A [(x, .inr (5, [.ref a1, .ref a2, .ref a3, .ref a4]))] s.heap.size = A at hD hE ⊢
  have hA : ∀ q : Nat, s.heap.size ≤ q → A q := fun q h => by rw [← hAe]; exact Or.inr h
  have hS : va_S A s.heap s.heap [] := va_S.rf
  have hP : va_P D vwCl [(x, .inr (5, [.ref a1, .ref a2, .ref a3, .ref a4]))] s.heap := hP
  have hl := lv_entry ([.ref x, .int p0, .int p1]) (n := 3) (Nat.le_of_ble_eq_true rfl)
  rw [lg_entry_eq]
  generalize (lg_sl ([.ref x, .int p0, .int p1]) ++ List.replicate (3 - (lg_sl ([.ref x, .int p0, .int p1])).length) Slot.unset).toArray = ls at hl ⊢
  have hl : lv_has ls 3 [(0, .ref x), (1, .int p0), (2, .int p1)] := hl
  have w_0 := hts (.classLink RX4 247 "java/lang/IndexOutOfBoundsException") (by decide +kernel)
  have w_1 := hts (.initialized "java/lang/IndexOutOfBoundsException") (by decide +kernel)
  refine lv_iload_n hx hb dX4_requireTwoStations_0 rfl (lv_at hl 1 rfl) ?_
  refine lv_iconst (v := 5) hx hb dX4_requireTwoStations_1 (by decide) ?_
  have hPc := hP.sub (ws' := []) [] rfl
  have hDc := hD.sub (ws' := []) [] (by decide) rfl
  have hFc := va_free (wc := []) hD hS hA [] rfl
  refine va_calli (va_runS (As := [.int p0, .int 5]) (rest := []) ⟨hx, hb, hml, hown, hts⟩ (c_X4_isBelow l hlt D tC dz s.heap.size p0 5 ) (va_cwS 2 hts gX4_requireTwoStations_X4_isBelow rfl rfl rfl (by decide +kernel) ⟨Nat.le_of_ble_eq_true rfl, Nat.le_of_ble_eq_true rfl⟩) ⟨pB_blind, pB_at hPc hDc hK hN hE hS hFc⟩ rfl rfl hl.1 rfl (lv_room (Nat.le_of_ble_eq_true rfl)) dX4_requireTwoStations_2 ⟨Nat.le_of_ble_eq_true rfl, Nat.le_of_ble_eq_true rfl⟩) hS (fun q _ h => hFc q h) hFc (fun r_1 u t H1 locs ht hvm hw hB hz1 hk1 hS => ?_)
  obtain ⟨hP1, _, hD1⟩ := hB
  have hw_2 := hw
  rw [ht] at hP1
  obtain ⟨hP, hD⟩ := va_join (wr := [(x, .inr (5, [.ref a1, .ref a2, .ref a3, .ref a4]))]) (w1 := []) hP hD [] [0] rfl rfl (by decide) (by decide) hk1 hFc hP1 hD1
  generalize H1 = H at hP hS ⊢
  have hP : va_P D vwCl [(x, .inr (5, [.ref a1, .ref a2, .ref a3, .ref a4]))] H := hP
  have hD : va_D A [(x, .inr (5, [.ref a1, .ref a2, .ref a3, .ref a4]))] := hD
  refine lv_if_eq (tgt := 21) hx hb dX4_requireTwoStations_5 (by decide) (fun c_3 => ?_) (fun c_3 => ?_)
  · skip
    obtain ⟨sa, hstr⟩ := hN.2.1 (252, "no two such stations") (by decide +kernel)
    exact vx_throwS hx hb hlt hown (by decide +kernel) (by decide +kernel) w_0 w_1 hstr (vx_hat (fun w hw => hts w (th_X4_requireTwoStations_IOOBE w hw)) at_IOOBE_rest (at_IOOBE_hat hN)) at_IOOBE_ok hE.1 hE.2.1 hS (by rw [hml]; exact hl.1) dX4_requireTwoStations_21 dX4_requireTwoStations_24 dX4_requireTwoStations_25 dX4_requireTwoStations_27 dX4_requireTwoStations_30 (fun x h => (hnx x h).elim) (by decide) (by decide) (Nat.le_of_ble_eq_true rfl) (Nat.le_of_ble_eq_true rfl) hlocks (fun t _ h1 h2 => ⟨(), trivial, ⟨rfl, Or.inl (bl0 hw_2 c_3)⟩, xF hS h1 h2⟩) hS.2.2 (Nat.le_of_ble_eq_true rfl) (Nat.le_of_ble_eq_true rfl)
  · skip
    refine lv_iload_n hx hb dX4_requireTwoStations_8 rfl (lv_at hl 2 rfl) ?_
    refine lv_iconst (v := 5) hx hb dX4_requireTwoStations_9 (by decide) ?_
    have hPc := hP.sub (ws' := []) [] rfl
    have hDc := hD.sub (ws' := []) [] (by decide) rfl
    have hFc := va_free (wc := []) hD hS hA [] rfl
    refine va_calli (va_runS (As := [.int p1, .int 5]) (rest := []) ⟨hx, hb, hml, hown, hts⟩ (c_X4_isBelow l hlt D tC dz H.size p1 5 ) (va_cwS 2 hts gX4_requireTwoStations_X4_isBelow rfl rfl rfl (by decide +kernel) ⟨Nat.le_of_ble_eq_true rfl, Nat.le_of_ble_eq_true rfl⟩) ⟨pB_blind, pB_at hPc hDc hK hN hE hS hFc⟩ rfl rfl hl.1 rfl (lv_room (Nat.le_of_ble_eq_true rfl)) dX4_requireTwoStations_10 ⟨Nat.le_of_ble_eq_true rfl, Nat.le_of_ble_eq_true rfl⟩) hS (fun q _ h => hFc q h) hFc (fun r_4 u t H1 locs ht hvm hw hB hz1 hk1 hS => ?_)
    obtain ⟨hP1, _, hD1⟩ := hB
    have hw_5 := hw
    rw [ht] at hP1
    obtain ⟨hP, hD⟩ := va_join (wr := [(x, .inr (5, [.ref a1, .ref a2, .ref a3, .ref a4]))]) (w1 := []) hP hD [] [0] rfl rfl (by decide) (by decide) hk1 hFc hP1 hD1
    generalize H1 = H at hP hS ⊢
    have hP : va_P D vwCl [(x, .inr (5, [.ref a1, .ref a2, .ref a3, .ref a4]))] H := hP
    have hD : va_D A [(x, .inr (5, [.ref a1, .ref a2, .ref a3, .ref a4]))] := hD
    refine lv_if_eq (tgt := 21) hx hb dX4_requireTwoStations_13 (by decide) (fun c_6 => ?_) (fun c_6 => ?_)
    · skip
      obtain ⟨sa, hstr⟩ := hN.2.1 (252, "no two such stations") (by decide +kernel)
      exact vx_throwS hx hb hlt hown (by decide +kernel) (by decide +kernel) w_0 w_1 hstr (vx_hat (fun w hw => hts w (th_X4_requireTwoStations_IOOBE w hw)) at_IOOBE_rest (at_IOOBE_hat hN)) at_IOOBE_ok hE.1 hE.2.1 hS (by rw [hml]; exact hl.1) dX4_requireTwoStations_21 dX4_requireTwoStations_24 dX4_requireTwoStations_25 dX4_requireTwoStations_27 dX4_requireTwoStations_30 (fun x h => (hnx x h).elim) (by decide) (by decide) (Nat.le_of_ble_eq_true rfl) (Nat.le_of_ble_eq_true rfl) hlocks (fun t _ h1 h2 => ⟨(), trivial, ⟨rfl, Or.inr (Or.inl (bl0 hw_5 c_6))⟩, xF hS h1 h2⟩) hS.2.2 (Nat.le_of_ble_eq_true rfl) (Nat.le_of_ble_eq_true rfl)
    · skip
      refine lv_iload_n hx hb dX4_requireTwoStations_16 rfl (lv_at hl 1 rfl) ?_
      refine lv_iload_n hx hb dX4_requireTwoStations_17 rfl (lv_at hl 2 rfl) ?_
      refine lv_icmp_ne (tgt := 31) hx hb dX4_requireTwoStations_18 (by decide) (fun c_7 => ?_) (fun c_7 => ?_)
      · skip
        have hP9 := hP.sub (ws' := [(x, .inr (5, [.ref a1, .ref a2, .ref a3, .ref a4]))]) [0] rfl
        have hD9 := hD.sub (ws' := [(x, .inr (5, [.ref a1, .ref a2, .ref a3, .ref a4]))]) [0] (by decide) rfl
        refine W.widen (k := 1) (n := 6) (by omega) (by omega) ?_
        exact vx_ret (W.vret hx hb hr (fun t ht hW => ⟨⟨(), rfl, (fun h => h.elim (bl1 hw_2 c_3) (fun h => h.elim (bl1 hw_5 c_6) c_7)), (by rw [ht]; exact hP9), va_K.moved hW.alike hK, hD9⟩, hS.F ht⟩) hS.2.2 dX4_requireTwoStations_31 hlocks)
      · skip
        obtain ⟨sa, hstr⟩ := hN.2.1 (252, "no two such stations") (by decide +kernel)
        exact vx_throwS hx hb hlt hown (by decide +kernel) (by decide +kernel) w_0 w_1 hstr (vx_hat (fun w hw => hts w (th_X4_requireTwoStations_IOOBE w hw)) at_IOOBE_rest (at_IOOBE_hat hN)) at_IOOBE_ok hE.1 hE.2.1 hS (by rw [hml]; exact hl.1) dX4_requireTwoStations_21 dX4_requireTwoStations_24 dX4_requireTwoStations_25 dX4_requireTwoStations_27 dX4_requireTwoStations_30 (fun x h => (hnx x h).elim) (by decide) (by decide) (Nat.le_of_ble_eq_true rfl) (Nat.le_of_ble_eq_true rfl) hlocks (fun t _ h1 h2 => ⟨(), trivial, ⟨rfl, Or.inr (Or.inr c_7)⟩, xF hS h1 h2⟩) hS.2.2 (Nat.le_of_ble_eq_true rfl) (Nat.le_of_ble_eq_true rfl)
set_option maxHeartbeats 4000000 in
set_option maxRecDepth 100000 in
theorem c_X4_requireLetter (l : Launch) (hlt : l.stackTraces = false) (D : va_G) (tC : Nat → ClassId) (dz sz : Nat) (x : Nat) (a1 : Nat) (a2 : Nat) (a3 : Nat) (a4 : Nat) (p0 : Int32) (md : Int32)  : vx_Met l yX4_requireLetter wsX4_requireLetter ({ frames := 6, cells := 1, slots := 6, locals := 82 }) (va_Pc [.ref x, .int p0] (pB D tC dz [(x, .inr (5, [.ref a1, .ref a2, .ref a3, .ref a4])), (a3, .inr (0, [.int md, .ref dz, .int 0]))] sz)) (va_Qv (fun (_ : Unit) => False) (fun (_ : Unit) t => pA D tC (va_A [(x, .inr (5, [.ref a1, .ref a2, .ref a3, .ref a4])), (a3, .inr (0, [.int md, .ref dz, .int 0]))] sz) [(x, .inr (5, [.ref a1, .ref a2, .ref a3, .ref a4])), (a3, .inr (0, [.int md, .ref dz, .int 0]))] t) (va_A [(x, .inr (5, [.ref a1, .ref a2, .ref a3, .ref a4])), (a3, .inr (0, [.int md, .ref dz, .int 0]))] sz)) (xX (fun E => E = "java/lang/IndexOutOfBoundsException") (va_A [(x, .inr (5, [.ref a1, .ref a2, .ref a3, .ref a4])), (a3, .inr (0, [.int md, .ref dz, .int 0]))] sz)) 1 6 (va_A [(x, .inr (5, [.ref a1, .ref a2, .ref a3, .ref a4])), (a3, .inr (0, [.int md, .ref dz, .int 0]))] sz) := by
  refine vx_ofW (cc := cX4_requireLetter) (maxL := 2) (ret := none) (by decide) rfl ?_
  intro p e s m args below meth c s₁ B hml hnx hv
  obtain ⟨rfl, hsz, hP, hK, hD0, hN, hE⟩ := hv
  have hx := B.exec
  have hb := B.bytes
  have hr := B.returns
  have hts := atoms_spec (ws := wsX4_requireLetter) B.pre
  have hown : s.vm.findClass RX4 = some m.cls := findClass_of_methodNamed B.named
  have hlocks := B.notSynchronized
  subst hsz
  have hD := hD0.self (sz := s.heap.size)
  generalize hAe : va_A [(x, .inr (5, [.ref a1, .ref a2, .ref a3, .ref a4])), (a3, .inr (0, [.int md, .ref dz, .int 0]))] s.heap.size = A at hD hE ⊢
  have hA : ∀ q : Nat, s.heap.size ≤ q → A q := fun q h => by rw [← hAe]; exact Or.inr h
  have hS : va_S A s.heap s.heap [] := va_S.rf
  have hP : va_P D vwCl [(x, .inr (5, [.ref a1, .ref a2, .ref a3, .ref a4])), (a3, .inr (0, [.int md, .ref dz, .int 0]))] s.heap := hP
  have hl := lv_entry ([.ref x, .int p0]) (n := 2) (Nat.le_of_ble_eq_true rfl)
  rw [lg_entry_eq]
  generalize (lg_sl ([.ref x, .int p0]) ++ List.replicate (2 - (lg_sl ([.ref x, .int p0])).length) Slot.unset).toArray = ls at hl ⊢
  have hl : lv_has ls 2 [(0, .ref x), (1, .int p0)] := hl
  have w_0 := hts (.fieldLink RX4 22 "NoticeStations" "row" "Ljava/util/ArrayList;") (by decide +kernel)
  have w_1 := hts (.classLink RX4 247 "java/lang/IndexOutOfBoundsException") (by decide +kernel)
  have w_2 := hts (.initialized "java/lang/IndexOutOfBoundsException") (by decide +kernel)
  refine lv_iload_n hx hb dX4_requireLetter_0 rfl (lv_at hl 1 rfl) ?_
  refine lv_aload_n hx hb dX4_requireLetter_1 rfl (lv_at hl 0 rfl) ?_
  refine va_get (D := D) (ci := 5) (v := .ref a3) (C := RX4) (T := TX4) (N := 4) hx hb hts in_X4_requireLetter_X4 hown hK hP 0 rfl rfl 2 (by decide) w_0 (fun _ h9 => h9) rfl dX4_requireLetter_2 ?_
  have hPc := hP.sub (ws' := [(a3, .inr (0, [.int md, .ref dz, .int 0]))]) [1] rfl
  have hDc := hD.sub (ws' := [(a3, .inr (0, [.int md, .ref dz, .int 0]))]) [1] (by decide) rfl
  have hFc := va_free (wc := [(a3, .inr (0, [.int md, .ref dz, .int 0]))]) hD hS hA [1] rfl
  refine va_calli (va_runV (As := []) (rest := [.int p0]) ⟨hx, hb, hml, hown, hts⟩ (c_Jx4a65c_size_8abf5 l hlt D tC dz s.heap.size a3 md dz 0 ) (cwV 0 hts gX4_requireLetter_Jx4a65c_size_8abf5 rfl rfl rfl (by decide +kernel) ⟨Nat.le_of_ble_eq_true rfl, Nat.le_of_ble_eq_true rfl⟩) ⟨pB_blind, va_recv hK hPc (ci := 0) (q0 := 0) rfl rfl, pB_at hPc hDc hK hN hE hS hFc⟩ rfl rfl hl.1 rfl (lv_room (Nat.le_of_ble_eq_true rfl)) dX4_requireLetter_5 ⟨Nat.le_of_ble_eq_true rfl, Nat.le_of_ble_eq_true rfl⟩) hS (fun q _ h => hFc q h) hFc (fun r_1 u t H1 locs ht hvm hw hB hz1 hk1 hS => ?_)
  obtain ⟨hP1, _, hD1⟩ := hB
  have hw_2 := hw
  rw [ht] at hP1
  obtain ⟨hP, hD⟩ := va_join (wr := [(x, .inr (5, [.ref a1, .ref a2, .ref a3, .ref a4]))]) (w1 := [(a3, .inr (0, [.int md, .ref dz, .int 0]))]) hP hD [1] [0] rfl rfl (by decide) (by decide) hk1 hFc hP1 hD1
  generalize H1 = H at hP hS ⊢
  have hP : va_P D vwCl [(x, .inr (5, [.ref a1, .ref a2, .ref a3, .ref a4])), (a3, .inr (0, [.int md, .ref dz, .int 0]))] H := hP
  have hD : va_D A [(x, .inr (5, [.ref a1, .ref a2, .ref a3, .ref a4])), (a3, .inr (0, [.int md, .ref dz, .int 0]))] := hD
  subst hw_2
  have hPc := hP.sub (ws' := []) [] rfl
  have hDc := hD.sub (ws' := []) [] (by decide) rfl
  have hFc := va_free (wc := []) hD hS hA [] rfl
  refine va_calli (va_runS (As := [.int p0, .int 0]) (rest := []) ⟨hx, hb, hml, hown, hts⟩ (c_X4_isBelow l hlt D tC dz H.size p0 0 ) (va_cwS 2 hts gX4_requireLetter_X4_isBelow rfl rfl rfl (by decide +kernel) ⟨Nat.le_of_ble_eq_true rfl, Nat.le_of_ble_eq_true rfl⟩) ⟨pB_blind, pB_at hPc hDc hK hN hE hS hFc⟩ rfl rfl hl.1 rfl (lv_room (Nat.le_of_ble_eq_true rfl)) dX4_requireLetter_8 ⟨Nat.le_of_ble_eq_true rfl, Nat.le_of_ble_eq_true rfl⟩) hS (fun q _ h => hFc q h) hFc (fun r_3 u t H1 locs ht hvm hw hB hz1 hk1 hS => ?_)
  obtain ⟨hP1, _, hD1⟩ := hB
  have hw_4 := hw
  rw [ht] at hP1
  obtain ⟨hP, hD⟩ := va_join (wr := [(x, .inr (5, [.ref a1, .ref a2, .ref a3, .ref a4])), (a3, .inr (0, [.int md, .ref dz, .int 0]))]) (w1 := []) hP hD [] [0, 1] rfl rfl (by decide) (by decide) hk1 hFc hP1 hD1
  generalize H1 = H at hP hS ⊢
  have hP : va_P D vwCl [(x, .inr (5, [.ref a1, .ref a2, .ref a3, .ref a4])), (a3, .inr (0, [.int md, .ref dz, .int 0]))] H := hP
  have hD : va_D A [(x, .inr (5, [.ref a1, .ref a2, .ref a3, .ref a4])), (a3, .inr (0, [.int md, .ref dz, .int 0]))] := hD
  refine lv_if_ne (tgt := 24) hx hb dX4_requireLetter_11 (by decide) (fun hc => absurd ((by rw [hw_4, if_pos (lt_or0 _)])) hc) (fun _ => ?_)
  obtain ⟨sa, hstr⟩ := hN.2.1 (254, "no such letter") (by decide +kernel)
  exact vx_throwS hx hb hlt hown (by decide +kernel) (by decide +kernel) w_1 w_2 hstr (vx_hat (fun w hw => hts w (th_X4_requireLetter_IOOBE w hw)) at_IOOBE_rest (at_IOOBE_hat hN)) at_IOOBE_ok hE.1 hE.2.1 hS (by rw [hml]; exact hl.1) dX4_requireLetter_14 dX4_requireLetter_17 dX4_requireLetter_18 dX4_requireLetter_20 dX4_requireLetter_23 (fun x h => (hnx x h).elim) (by decide) (by decide) (Nat.le_of_ble_eq_true rfl) (Nat.le_of_ble_eq_true rfl) hlocks (fun t _ h1 h2 => ⟨(), trivial, rfl, xF hS h1 h2⟩) hS.2.2 (Nat.le_of_ble_eq_true rfl) (Nat.le_of_ble_eq_true rfl)
set_option maxHeartbeats 4000000 in
set_option maxRecDepth 100000 in
theorem c_X4_letterAt (l : Launch) (hlt : l.stackTraces = false) (D : va_G) (tC : Nat → ClassId) (dz sz : Nat) (x : Nat) (a1 : Nat) (a2 : Nat) (a3 : Nat) (a4 : Nat) (p0 : Int32) (md : Int32)  : vx_Met l yX4_letterAt wsX4_letterAt ({ frames := 7, cells := 1, slots := 6, locals := 103 }) (va_Pc [.ref x, .int p0] (pB D tC dz [(x, .inr (5, [.ref a1, .ref a2, .ref a3, .ref a4])), (a3, .inr (0, [.int md, .ref dz, .int 0]))] sz)) (va_Qr (fun (_ : Unit) => False) (fun (_ : Unit) (r : Nat) t => pA D tC (va_A [(x, .inr (5, [.ref a1, .ref a2, .ref a3, .ref a4])), (a3, .inr (0, [.int md, .ref dz, .int 0]))] sz) [(x, .inr (5, [.ref a1, .ref a2, .ref a3, .ref a4])), (a3, .inr (0, [.int md, .ref dz, .int 0]))] t) (va_A [(x, .inr (5, [.ref a1, .ref a2, .ref a3, .ref a4])), (a3, .inr (0, [.int md, .ref dz, .int 0]))] sz)) (xX (fun E => E = "java/lang/IndexOutOfBoundsException") (va_A [(x, .inr (5, [.ref a1, .ref a2, .ref a3, .ref a4])), (a3, .inr (0, [.int md, .ref dz, .int 0]))] sz)) 1 6 (va_A [(x, .inr (5, [.ref a1, .ref a2, .ref a3, .ref a4])), (a3, .inr (0, [.int md, .ref dz, .int 0]))] sz) := by
  refine vx_ofW (cc := cX4_letterAt) (maxL := 2) (ret := (some (.object "NoticeStations$Letter"))) (by decide) rfl ?_
  intro p e s m args below meth c s₁ B hml hnx hv
  obtain ⟨rfl, hsz, hP, hK, hD0, hN, hE⟩ := hv
  have hx := B.exec
  have hb := B.bytes
  have hr := B.returns
  have hts := atoms_spec (ws := wsX4_letterAt) B.pre
  have hown : s.vm.findClass RX4 = some m.cls := findClass_of_methodNamed B.named
  have hlocks := B.notSynchronized
  subst hsz
  have hD := hD0.self (sz := s.heap.size)
  generalize hAe : va_A [(x, .inr (5, [.ref a1, .ref a2, .ref a3, .ref a4])), (a3, .inr (0, [.int md, .ref dz, .int 0]))] s.heap.size = A at hD hE ⊢
  have hA : ∀ q : Nat, s.heap.size ≤ q → A q := fun q h => by rw [← hAe]; exact Or.inr h
  have hS : va_S A s.heap s.heap [] := va_S.rf
  have hP : va_P D vwCl [(x, .inr (5, [.ref a1, .ref a2, .ref a3, .ref a4])), (a3, .inr (0, [.int md, .ref dz, .int 0]))] s.heap := hP
  have hl := lv_entry ([.ref x, .int p0]) (n := 2) (Nat.le_of_ble_eq_true rfl)
  rw [lg_entry_eq]
  generalize (lg_sl ([.ref x, .int p0]) ++ List.replicate (2 - (lg_sl ([.ref x, .int p0])).length) Slot.unset).toArray = ls at hl ⊢
  have hl : lv_has ls 2 [(0, .ref x), (1, .int p0)] := hl
  refine lv_aload_n hx hb dX4_letterAt_0 rfl (lv_at hl 0 rfl) ?_
  refine lv_iload_n hx hb dX4_letterAt_1 rfl (lv_at hl 1 rfl) ?_
  have hPc := hP.sub (ws' := [(x, .inr (5, [.ref a1, .ref a2, .ref a3, .ref a4])), (a3, .inr (0, [.int md, .ref dz, .int 0]))]) [0, 1] rfl
  have hDc := hD.sub (ws' := [(x, .inr (5, [.ref a1, .ref a2, .ref a3, .ref a4])), (a3, .inr (0, [.int md, .ref dz, .int 0]))]) [0, 1] (by decide) rfl
  have hFc := va_free (wc := [(x, .inr (5, [.ref a1, .ref a2, .ref a3, .ref a4])), (a3, .inr (0, [.int md, .ref dz, .int 0]))]) hD hS hA [0, 1] rfl
  refine vx_callv (vx_runV (As := [.int p0]) (rest := []) ⟨hx, hb, hml, hown, hts⟩ (c_X4_requireLetter l hlt D tC dz s.heap.size x a1 a2 a3 a4 p0 md ) (cwV 1 hts gX4_letterAt_X4_requireLetter rfl rfl rfl (by decide +kernel) ⟨Nat.le_of_ble_eq_true rfl, Nat.le_of_ble_eq_true rfl⟩) ⟨pB_blind, va_recv hK hPc (ci := 5) (q0 := 0) rfl rfl, pB_at hPc hDc hK hN hE hS hFc⟩ rfl rfl hl.1 rfl (lv_room (Nat.le_of_ble_eq_true rfl)) dX4_letterAt_2 ⟨Nat.le_of_ble_eq_true rfl, Nat.le_of_ble_eq_true rfl⟩) hS (fun q _ h => hFc q h) hFc (fun q _ h => hFc q h) (fun E ce q9 u t H1 locs ht hvm hpx hPE hz1 hk1 hS hce hcv hcl => ?_) (fun _ _ _ _ _ _ hw => hw.elim)
  exact vx_out (fun x h => (hnx x h).elim) hlocks hce hcv hcl (fun t9 h9 _ => ⟨(), trivial, hPE, hS.F h9⟩) hS.2.2 (Nat.le_of_ble_eq_true rfl) (Nat.le_of_ble_eq_true rfl)
set_option maxHeartbeats 4000000 in
set_option maxRecDepth 100000 in
theorem c_X4_lose (l : Launch) (hlt : l.stackTraces = false) (D : va_G) (tC : Nat → ClassId) (dz sz : Nat) (x : Nat) (a1 : Nat) (a2 : Nat) (a3 : Nat) (a4 : Nat) (p0 : Int32) (md : Int32)  : vx_Met l yX4_lose wsX4_lose ({ frames := 7, cells := 1, slots := 6, locals := 103 }) (va_Pc [.ref x, .int p0] (pB D tC dz [(x, .inr (5, [.ref a1, .ref a2, .ref a3, .ref a4])), (a3, .inr (0, [.int md, .ref dz, .int 0]))] sz)) (va_Qv (fun (_ : Unit) => False) (fun (_ : Unit) t => pA D tC (va_A [(x, .inr (5, [.ref a1, .ref a2, .ref a3, .ref a4])), (a3, .inr (0, [.int md, .ref dz, .int 0]))] sz) [(x, .inr (5, [.ref a1, .ref a2, .ref a3, .ref a4])), (a3, .inr (0, [.int md, .ref dz, .int 0]))] t) (va_A [(x, .inr (5, [.ref a1, .ref a2, .ref a3, .ref a4])), (a3, .inr (0, [.int md, .ref dz, .int 0]))] sz)) (xX (fun E => E = "java/lang/IndexOutOfBoundsException") (va_A [(x, .inr (5, [.ref a1, .ref a2, .ref a3, .ref a4])), (a3, .inr (0, [.int md, .ref dz, .int 0]))] sz)) 1 6 (va_A [(x, .inr (5, [.ref a1, .ref a2, .ref a3, .ref a4])), (a3, .inr (0, [.int md, .ref dz, .int 0]))] sz) := by
  refine vx_ofW (cc := cX4_lose) (maxL := 2) (ret := none) (by decide) rfl ?_
  intro p e s m args below meth c s₁ B hml hnx hv
  obtain ⟨rfl, hsz, hP, hK, hD0, hN, hE⟩ := hv
  have hx := B.exec
  have hb := B.bytes
  have hr := B.returns
  have hts := atoms_spec (ws := wsX4_lose) B.pre
  have hown : s.vm.findClass RX4 = some m.cls := findClass_of_methodNamed B.named
  have hlocks := B.notSynchronized
  subst hsz
  have hD := hD0.self (sz := s.heap.size)
  generalize hAe : va_A [(x, .inr (5, [.ref a1, .ref a2, .ref a3, .ref a4])), (a3, .inr (0, [.int md, .ref dz, .int 0]))] s.heap.size = A at hD hE ⊢
  have hA : ∀ q : Nat, s.heap.size ≤ q → A q := fun q h => by rw [← hAe]; exact Or.inr h
  have hS : va_S A s.heap s.heap [] := va_S.rf
  have hP : va_P D vwCl [(x, .inr (5, [.ref a1, .ref a2, .ref a3, .ref a4])), (a3, .inr (0, [.int md, .ref dz, .int 0]))] s.heap := hP
  have hl := lv_entry ([.ref x, .int p0]) (n := 2) (Nat.le_of_ble_eq_true rfl)
  rw [lg_entry_eq]
  generalize (lg_sl ([.ref x, .int p0]) ++ List.replicate (2 - (lg_sl ([.ref x, .int p0])).length) Slot.unset).toArray = ls at hl ⊢
  have hl : lv_has ls 2 [(0, .ref x), (1, .int p0)] := hl
  refine lv_aload_n hx hb dX4_lose_0 rfl (lv_at hl 0 rfl) ?_
  refine lv_iload_n hx hb dX4_lose_1 rfl (lv_at hl 1 rfl) ?_
  have hPc := hP.sub (ws' := [(x, .inr (5, [.ref a1, .ref a2, .ref a3, .ref a4])), (a3, .inr (0, [.int md, .ref dz, .int 0]))]) [0, 1] rfl
  have hDc := hD.sub (ws' := [(x, .inr (5, [.ref a1, .ref a2, .ref a3, .ref a4])), (a3, .inr (0, [.int md, .ref dz, .int 0]))]) [0, 1] (by decide) rfl
  have hFc := va_free (wc := [(x, .inr (5, [.ref a1, .ref a2, .ref a3, .ref a4])), (a3, .inr (0, [.int md, .ref dz, .int 0]))]) hD hS hA [0, 1] rfl
  refine vx_callv (vx_runV (As := [.int p0]) (rest := []) ⟨hx, hb, hml, hown, hts⟩ (c_X4_requireLetter l hlt D tC dz s.heap.size x a1 a2 a3 a4 p0 md ) (cwV 1 hts gX4_lose_X4_requireLetter rfl rfl rfl (by decide +kernel) ⟨Nat.le_of_ble_eq_true rfl, Nat.le_of_ble_eq_true rfl⟩) ⟨pB_blind, va_recv hK hPc (ci := 5) (q0 := 0) rfl rfl, pB_at hPc hDc hK hN hE hS hFc⟩ rfl rfl hl.1 rfl (lv_room (Nat.le_of_ble_eq_true rfl)) dX4_lose_2 ⟨Nat.le_of_ble_eq_true rfl, Nat.le_of_ble_eq_true rfl⟩) hS (fun q _ h => hFc q h) hFc (fun q _ h => hFc q h) (fun E ce q9 u t H1 locs ht hvm hpx hPE hz1 hk1 hS hce hcv hcl => ?_) (fun _ _ _ _ _ _ hw => hw.elim)
  exact vx_out (fun x h => (hnx x h).elim) hlocks hce hcv hcl (fun t9 h9 _ => ⟨(), trivial, hPE, hS.F h9⟩) hS.2.2 (Nat.le_of_ble_eq_true rfl) (Nat.le_of_ble_eq_true rfl)
set_option maxHeartbeats 4000000 in
set_option maxRecDepth 100000 in
theorem c_X4_twin (l : Launch) (hlt : l.stackTraces = false) (D : va_G) (tC : Nat → ClassId) (dz sz : Nat) (x : Nat) (a1 : Nat) (a2 : Nat) (a3 : Nat) (a4 : Nat) (p0 : Int32) (md : Int32)  : vx_Met l yX4_twin wsX4_twin ({ frames := 8, cells := 1, slots := 6, locals := 124 }) (va_Pc [.ref x, .int p0] (pB D tC dz [(x, .inr (5, [.ref a1, .ref a2, .ref a3, .ref a4])), (a3, .inr (0, [.int md, .ref dz, .int 0]))] sz)) (va_Qv (fun (_ : Unit) => False) (fun (_ : Unit) t => pA D tC (va_A [(x, .inr (5, [.ref a1, .ref a2, .ref a3, .ref a4])), (a3, .inr (0, [.int md, .ref dz, .int 0]))] sz) [(x, .inr (5, [.ref a1, .ref a2, .ref a3, .ref a4])), (a3, .inr (0, [.int md, .ref dz, .int 0]))] t) (va_A [(x, .inr (5, [.ref a1, .ref a2, .ref a3, .ref a4])), (a3, .inr (0, [.int md, .ref dz, .int 0]))] sz)) (xX (fun E => E = "java/lang/IndexOutOfBoundsException") (va_A [(x, .inr (5, [.ref a1, .ref a2, .ref a3, .ref a4])), (a3, .inr (0, [.int md, .ref dz, .int 0]))] sz)) 1 6 (va_A [(x, .inr (5, [.ref a1, .ref a2, .ref a3, .ref a4])), (a3, .inr (0, [.int md, .ref dz, .int 0]))] sz) := by
  refine vx_ofW (cc := cX4_twin) (maxL := 3) (ret := none) (by decide) rfl ?_
  intro p e s m args below meth c s₁ B hml hnx hv
  obtain ⟨rfl, hsz, hP, hK, hD0, hN, hE⟩ := hv
  have hx := B.exec
  have hb := B.bytes
  have hr := B.returns
  have hts := atoms_spec (ws := wsX4_twin) B.pre
  have hown : s.vm.findClass RX4 = some m.cls := findClass_of_methodNamed B.named
  have hlocks := B.notSynchronized
  subst hsz
  have hD := hD0.self (sz := s.heap.size)
  generalize hAe : va_A [(x, .inr (5, [.ref a1, .ref a2, .ref a3, .ref a4])), (a3, .inr (0, [.int md, .ref dz, .int 0]))] s.heap.size = A at hD hE ⊢
  have hA : ∀ q : Nat, s.heap.size ≤ q → A q := fun q h => by rw [← hAe]; exact Or.inr h
  have hS : va_S A s.heap s.heap [] := va_S.rf
  have hP : va_P D vwCl [(x, .inr (5, [.ref a1, .ref a2, .ref a3, .ref a4])), (a3, .inr (0, [.int md, .ref dz, .int 0]))] s.heap := hP
  have hl := lv_entry ([.ref x, .int p0]) (n := 3) (Nat.le_of_ble_eq_true rfl)
  rw [lg_entry_eq]
  generalize (lg_sl ([.ref x, .int p0]) ++ List.replicate (3 - (lg_sl ([.ref x, .int p0])).length) Slot.unset).toArray = ls at hl ⊢
  have hl : lv_has ls 3 [(0, .ref x), (1, .int p0)] := hl
  refine lv_aload_n hx hb dX4_twin_0 rfl (lv_at hl 0 rfl) ?_
  refine lv_iload_n hx hb dX4_twin_1 rfl (lv_at hl 1 rfl) ?_
  have hPc := hP.sub (ws' := [(x, .inr (5, [.ref a1, .ref a2, .ref a3, .ref a4])), (a3, .inr (0, [.int md, .ref dz, .int 0]))]) [0, 1] rfl
  have hDc := hD.sub (ws' := [(x, .inr (5, [.ref a1, .ref a2, .ref a3, .ref a4])), (a3, .inr (0, [.int md, .ref dz, .int 0]))]) [0, 1] (by decide) rfl
  have hFc := va_free (wc := [(x, .inr (5, [.ref a1, .ref a2, .ref a3, .ref a4])), (a3, .inr (0, [.int md, .ref dz, .int 0]))]) hD hS hA [0, 1] rfl
  refine vx_callr (vx_runV (As := [.int p0]) (rest := []) ⟨hx, hb, hml, hown, hts⟩ (c_X4_letterAt l hlt D tC dz s.heap.size x a1 a2 a3 a4 p0 md ) (cwV 1 hts gX4_twin_X4_letterAt rfl rfl rfl (by decide +kernel) ⟨Nat.le_of_ble_eq_true rfl, Nat.le_of_ble_eq_true rfl⟩) ⟨pB_blind, va_recv hK hPc (ci := 5) (q0 := 0) rfl rfl, pB_at hPc hDc hK hN hE hS hFc⟩ rfl rfl hl.1 rfl (lv_room (Nat.le_of_ble_eq_true rfl)) dX4_twin_2 ⟨Nat.le_of_ble_eq_true rfl, Nat.le_of_ble_eq_true rfl⟩) hS (fun q _ h => hFc q h) hFc (fun q _ h => hFc q h) (fun E ce q9 u t H1 locs ht hvm hpx hPE hz1 hk1 hS hce hcv hcl => ?_) (fun _ _ _ _ _ _ _ hw => hw.elim)
  exact vx_out (fun x h => (hnx x h).elim) hlocks hce hcv hcl (fun t9 h9 _ => ⟨(), trivial, hPE, hS.F h9⟩) hS.2.2 (Nat.le_of_ble_eq_true rfl) (Nat.le_of_ble_eq_true rfl)
set_option maxHeartbeats 4000000 in
set_option maxRecDepth 100000 in
theorem c_X4_letter (l : Launch) (hlt : l.stackTraces = false) (D : va_G) (tC : Nat → ClassId) (dz sz : Nat) (x : Nat) (a1 : Nat) (a2 : Nat) (a3 : Nat) (a4 : Nat) (p0 : Int32) (p1 : Int32) (md : Int32)  : vx_Met l yX4_letter wsX4_letter ({ frames := 8, cells := 1, slots := 6, locals := 124 }) (va_Pc [.ref x, .int p0, .int p1] (pB D tC dz [(x, .inr (5, [.ref a1, .ref a2, .ref a3, .ref a4])), (a3, .inr (0, [.int md, .ref dz, .int 0]))] sz)) (va_Qi (fun (r : Int32) (_ : Unit) => False) (fun (_ : Unit) t => pA D tC (va_A [(x, .inr (5, [.ref a1, .ref a2, .ref a3, .ref a4])), (a3, .inr (0, [.int md, .ref dz, .int 0]))] sz) [(x, .inr (5, [.ref a1, .ref a2, .ref a3, .ref a4])), (a3, .inr (0, [.int md, .ref dz, .int 0]))] t) (va_A [(x, .inr (5, [.ref a1, .ref a2, .ref a3, .ref a4])), (a3, .inr (0, [.int md, .ref dz, .int 0]))] sz)) (xX (fun E => E = "java/lang/IndexOutOfBoundsException") (va_A [(x, .inr (5, [.ref a1, .ref a2, .ref a3, .ref a4])), (a3, .inr (0, [.int md, .ref dz, .int 0]))] sz)) 1 6 (va_A [(x, .inr (5, [.ref a1, .ref a2, .ref a3, .ref a4])), (a3, .inr (0, [.int md, .ref dz, .int 0]))] sz) := by
  refine vx_ofW (cc := cX4_letter) (maxL := 4) (ret := (some .int)) (by decide) rfl ?_
  intro p e s m args below meth c s₁ B hml hnx hv
  obtain ⟨rfl, hsz, hP, hK, hD0, hN, hE⟩ := hv
  have hx := B.exec
  have hb := B.bytes
  have hr := B.returns
  have hts := atoms_spec (ws := wsX4_letter) B.pre
  have hown : s.vm.findClass RX4 = some m.cls := findClass_of_methodNamed B.named
  have hlocks := B.notSynchronized
  subst hsz
  have hD := hD0.self (sz := s.heap.size)
  generalize hAe : va_A [(x, .inr (5, [.ref a1, .ref a2, .ref a3, .ref a4])), (a3, .inr (0, [.int md, .ref dz, .int 0]))] s.heap.size = A at hD hE ⊢
  have hA : ∀ q : Nat, s.heap.size ≤ q → A q := fun q h => by rw [← hAe]; exact Or.inr h
  have hS : va_S A s.heap s.heap [] := va_S.rf
  have hP : va_P D vwCl [(x, .inr (5, [.ref a1, .ref a2, .ref a3, .ref a4])), (a3, .inr (0, [.int md, .ref dz, .int 0]))] s.heap := hP
  have hl := lv_entry ([.ref x, .int p0, .int p1]) (n := 4) (Nat.le_of_ble_eq_true rfl)
  rw [lg_entry_eq]
  generalize (lg_sl ([.ref x, .int p0, .int p1]) ++ List.replicate (4 - (lg_sl ([.ref x, .int p0, .int p1])).length) Slot.unset).toArray = ls at hl ⊢
  have hl : lv_has ls 4 [(0, .ref x), (1, .int p0), (2, .int p1)] := hl
  refine lv_aload_n hx hb dX4_letter_0 rfl (lv_at hl 0 rfl) ?_
  refine lv_iload_n hx hb dX4_letter_1 rfl (lv_at hl 1 rfl) ?_
  have hPc := hP.sub (ws' := [(x, .inr (5, [.ref a1, .ref a2, .ref a3, .ref a4])), (a3, .inr (0, [.int md, .ref dz, .int 0]))]) [0, 1] rfl
  have hDc := hD.sub (ws' := [(x, .inr (5, [.ref a1, .ref a2, .ref a3, .ref a4])), (a3, .inr (0, [.int md, .ref dz, .int 0]))]) [0, 1] (by decide) rfl
  have hFc := va_free (wc := [(x, .inr (5, [.ref a1, .ref a2, .ref a3, .ref a4])), (a3, .inr (0, [.int md, .ref dz, .int 0]))]) hD hS hA [0, 1] rfl
  refine vx_callr (vx_runV (As := [.int p0]) (rest := []) ⟨hx, hb, hml, hown, hts⟩ (c_X4_letterAt l hlt D tC dz s.heap.size x a1 a2 a3 a4 p0 md ) (cwV 1 hts gX4_letter_X4_letterAt rfl rfl rfl (by decide +kernel) ⟨Nat.le_of_ble_eq_true rfl, Nat.le_of_ble_eq_true rfl⟩) ⟨pB_blind, va_recv hK hPc (ci := 5) (q0 := 0) rfl rfl, pB_at hPc hDc hK hN hE hS hFc⟩ rfl rfl hl.1 rfl (lv_room (Nat.le_of_ble_eq_true rfl)) dX4_letter_2 ⟨Nat.le_of_ble_eq_true rfl, Nat.le_of_ble_eq_true rfl⟩) hS (fun q _ h => hFc q h) hFc (fun q _ h => hFc q h) (fun E ce q9 u t H1 locs ht hvm hpx hPE hz1 hk1 hS hce hcv hcl => ?_) (fun _ _ _ _ _ _ _ hw => hw.elim)
  exact vx_out (fun x h => (hnx x h).elim) hlocks hce hcv hcl (fun t9 h9 _ => ⟨(), trivial, hPE, hS.F h9⟩) hS.2.2 (Nat.le_of_ble_eq_true rfl) (Nat.le_of_ble_eq_true rfl)
set_option maxHeartbeats 4000000 in
set_option maxRecDepth 100000 in
theorem c_X4_deliver (l : Launch) (hlt : l.stackTraces = false) (D : va_G) (tC : Nat → ClassId) (dz sz : Nat) (x : Nat) (a1 : Nat) (a2 : Nat) (a3 : Nat) (a4 : Nat) (p0 : Int32) (md : Int32)  : vx_Met l yX4_deliver wsX4_deliver ({ frames := 8, cells := 1, slots := 6, locals := 124 }) (va_Pc [.ref x, .int p0] (pB D tC dz [(x, .inr (5, [.ref a1, .ref a2, .ref a3, .ref a4])), (a3, .inr (0, [.int md, .ref dz, .int 0]))] sz)) (va_Qi (fun (r : Int32) (_ : Unit) => False) (fun (_ : Unit) t => pA D tC (va_A [(x, .inr (5, [.ref a1, .ref a2, .ref a3, .ref a4])), (a3, .inr (0, [.int md, .ref dz, .int 0]))] sz) [(x, .inr (5, [.ref a1, .ref a2, .ref a3, .ref a4])), (a3, .inr (0, [.int md, .ref dz, .int 0]))] t) (va_A [(x, .inr (5, [.ref a1, .ref a2, .ref a3, .ref a4])), (a3, .inr (0, [.int md, .ref dz, .int 0]))] sz)) (xX (fun E => E = "java/lang/IndexOutOfBoundsException") (va_A [(x, .inr (5, [.ref a1, .ref a2, .ref a3, .ref a4])), (a3, .inr (0, [.int md, .ref dz, .int 0]))] sz)) 1 6 (va_A [(x, .inr (5, [.ref a1, .ref a2, .ref a3, .ref a4])), (a3, .inr (0, [.int md, .ref dz, .int 0]))] sz) := by
  refine vx_ofW (cc := cX4_deliver) (maxL := 4) (ret := (some .int)) (by decide) rfl ?_
  intro p e s m args below meth c s₁ B hml hnx hv
  obtain ⟨rfl, hsz, hP, hK, hD0, hN, hE⟩ := hv
  have hx := B.exec
  have hb := B.bytes
  have hr := B.returns
  have hts := atoms_spec (ws := wsX4_deliver) B.pre
  have hown : s.vm.findClass RX4 = some m.cls := findClass_of_methodNamed B.named
  have hlocks := B.notSynchronized
  subst hsz
  have hD := hD0.self (sz := s.heap.size)
  generalize hAe : va_A [(x, .inr (5, [.ref a1, .ref a2, .ref a3, .ref a4])), (a3, .inr (0, [.int md, .ref dz, .int 0]))] s.heap.size = A at hD hE ⊢
  have hA : ∀ q : Nat, s.heap.size ≤ q → A q := fun q h => by rw [← hAe]; exact Or.inr h
  have hS : va_S A s.heap s.heap [] := va_S.rf
  have hP : va_P D vwCl [(x, .inr (5, [.ref a1, .ref a2, .ref a3, .ref a4])), (a3, .inr (0, [.int md, .ref dz, .int 0]))] s.heap := hP
  have hl := lv_entry ([.ref x, .int p0]) (n := 4) (Nat.le_of_ble_eq_true rfl)
  rw [lg_entry_eq]
  generalize (lg_sl ([.ref x, .int p0]) ++ List.replicate (4 - (lg_sl ([.ref x, .int p0])).length) Slot.unset).toArray = ls at hl ⊢
  have hl : lv_has ls 4 [(0, .ref x), (1, .int p0)] := hl
  refine lv_aload_n hx hb dX4_deliver_0 rfl (lv_at hl 0 rfl) ?_
  refine lv_iload_n hx hb dX4_deliver_1 rfl (lv_at hl 1 rfl) ?_
  have hPc := hP.sub (ws' := [(x, .inr (5, [.ref a1, .ref a2, .ref a3, .ref a4])), (a3, .inr (0, [.int md, .ref dz, .int 0]))]) [0, 1] rfl
  have hDc := hD.sub (ws' := [(x, .inr (5, [.ref a1, .ref a2, .ref a3, .ref a4])), (a3, .inr (0, [.int md, .ref dz, .int 0]))]) [0, 1] (by decide) rfl
  have hFc := va_free (wc := [(x, .inr (5, [.ref a1, .ref a2, .ref a3, .ref a4])), (a3, .inr (0, [.int md, .ref dz, .int 0]))]) hD hS hA [0, 1] rfl
  refine vx_callr (vx_runV (As := [.int p0]) (rest := []) ⟨hx, hb, hml, hown, hts⟩ (c_X4_letterAt l hlt D tC dz s.heap.size x a1 a2 a3 a4 p0 md ) (cwV 1 hts gX4_deliver_X4_letterAt rfl rfl rfl (by decide +kernel) ⟨Nat.le_of_ble_eq_true rfl, Nat.le_of_ble_eq_true rfl⟩) ⟨pB_blind, va_recv hK hPc (ci := 5) (q0 := 0) rfl rfl, pB_at hPc hDc hK hN hE hS hFc⟩ rfl rfl hl.1 rfl (lv_room (Nat.le_of_ble_eq_true rfl)) dX4_deliver_2 ⟨Nat.le_of_ble_eq_true rfl, Nat.le_of_ble_eq_true rfl⟩) hS (fun q _ h => hFc q h) hFc (fun q _ h => hFc q h) (fun E ce q9 u t H1 locs ht hvm hpx hPE hz1 hk1 hS hce hcv hcl => ?_) (fun _ _ _ _ _ _ _ hw => hw.elim)
  exact vx_out (fun x h => (hnx x h).elim) hlocks hce hcv hcl (fun t9 h9 _ => ⟨(), trivial, hPE, hS.F h9⟩) hS.2.2 (Nat.le_of_ble_eq_true rfl) (Nat.le_of_ble_eq_true rfl)
set_option maxHeartbeats 4000000 in
set_option maxRecDepth 100000 in
theorem c_X4_letters (l : Launch) (hlt : l.stackTraces = false) (D : va_G) (tC : Nat → ClassId) (dz sz : Nat) (x : Nat) (a1 : Nat) (a2 : Nat) (a3 : Nat) (a4 : Nat) (md : Int32)  : Met l yX4_letters wsX4_letters ({ frames := 1, cells := 0, slots := 0, locals := 20 }) (va_Pc [.ref x] (pB D tC dz [(x, .inr (5, [.ref a1, .ref a2, .ref a3, .ref a4])), (a3, .inr (0, [.int md, .ref dz, .int 0]))] sz)) (va_Qi (fun (r : Int32) (_ : Unit) => r = 0) (fun (_ : Unit) t => pA D tC (va_A [(x, .inr (5, [.ref a1, .ref a2, .ref a3, .ref a4])), (a3, .inr (0, [.int md, .ref dz, .int 0]))] sz) [] t) (va_A [(x, .inr (5, [.ref a1, .ref a2, .ref a3, .ref a4])), (a3, .inr (0, [.int md, .ref dz, .int 0]))] sz)) 0 0 (va_A [(x, .inr (5, [.ref a1, .ref a2, .ref a3, .ref a4])), (a3, .inr (0, [.int md, .ref dz, .int 0]))] sz) := by
  refine Met.ofW (cc := cX4_letters) (maxL := 1) (ret := (some .int)) (by decide) rfl ?_
  intro p e s m args below meth c s₁ B hml hv
  obtain ⟨rfl, hsz, hP, hK, hD0, hN, hE⟩ := hv
  have hx := B.exec
  have hb := B.bytes
  have hr := B.returns
  have hts := atoms_spec (ws := wsX4_letters) B.pre
  have hown : s.vm.findClass RX4 = some m.cls := findClass_of_methodNamed B.named
  have hlocks := B.notSynchronized
  subst hsz
  have hD := hD0.self (sz := s.heap.size)
  generalize hAe : va_A [(x, .inr (5, [.ref a1, .ref a2, .ref a3, .ref a4])), (a3, .inr (0, [.int md, .ref dz, .int 0]))] s.heap.size = A at hD hE ⊢
  have hA : ∀ q : Nat, s.heap.size ≤ q → A q := fun q h => by rw [← hAe]; exact Or.inr h
  have hS : va_S A s.heap s.heap [] := va_S.rf
  have hP : va_P D vwCl [(x, .inr (5, [.ref a1, .ref a2, .ref a3, .ref a4])), (a3, .inr (0, [.int md, .ref dz, .int 0]))] s.heap := hP
  have hl := lv_entry ([.ref x]) (n := 1) (Nat.le_of_ble_eq_true rfl)
  rw [lg_entry_eq]
  generalize (lg_sl ([.ref x]) ++ List.replicate (1 - (lg_sl ([.ref x])).length) Slot.unset).toArray = ls at hl ⊢
  have hl : lv_has ls 1 [(0, .ref x)] := hl
  have w_0 := hts (.fieldLink RX4 22 "NoticeStations" "row" "Ljava/util/ArrayList;") (by decide +kernel)
  refine lv_aload_n hx hb dX4_letters_0 rfl (lv_at hl 0 rfl) ?_
  refine va_get (D := D) (ci := 5) (v := .ref a3) (C := RX4) (T := TX4) (N := 4) hx hb hts in_X4_letters_X4 hown hK hP 0 rfl rfl 2 (by decide) w_0 (fun _ h9 => h9) rfl dX4_letters_1 ?_
  have hPc := hP.sub (ws' := [(a3, .inr (0, [.int md, .ref dz, .int 0]))]) [1] rfl
  have hDc := hD.sub (ws' := [(a3, .inr (0, [.int md, .ref dz, .int 0]))]) [1] (by decide) rfl
  have hFc := va_free (wc := [(a3, .inr (0, [.int md, .ref dz, .int 0]))]) hD hS hA [1] rfl
  refine va_calli (va_runV (As := []) (rest := []) ⟨hx, hb, hml, hown, hts⟩ (c_Jx4a65c_size_8abf5 l hlt D tC dz s.heap.size a3 md dz 0 ) (cwV 0 hts gX4_letters_Jx4a65c_size_8abf5 rfl rfl rfl (by decide +kernel) ⟨Nat.le_of_ble_eq_true rfl, Nat.le_of_ble_eq_true rfl⟩) ⟨pB_blind, va_recv hK hPc (ci := 0) (q0 := 0) rfl rfl, pB_at hPc hDc hK hN hE hS hFc⟩ rfl rfl hl.1 rfl (lv_room (Nat.le_of_ble_eq_true rfl)) dX4_letters_4 ⟨Nat.le_of_ble_eq_true rfl, Nat.le_of_ble_eq_true rfl⟩) hS (fun q _ h => hFc q h) hFc (fun r_1 u t H1 locs ht hvm hw hB hz1 hk1 hS => ?_)
  obtain ⟨hP1, _, hD1⟩ := hB
  have hw_2 := hw
  rw [ht] at hP1
  obtain ⟨hP, hD⟩ := va_join (wr := [(x, .inr (5, [.ref a1, .ref a2, .ref a3, .ref a4]))]) (w1 := [(a3, .inr (0, [.int md, .ref dz, .int 0]))]) hP hD [1] [0] rfl rfl (by decide) (by decide) hk1 hFc hP1 hD1
  generalize H1 = H at hP hS ⊢
  have hP : va_P D vwCl [(x, .inr (5, [.ref a1, .ref a2, .ref a3, .ref a4])), (a3, .inr (0, [.int md, .ref dz, .int 0]))] H := hP
  have hD : va_D A [(x, .inr (5, [.ref a1, .ref a2, .ref a3, .ref a4])), (a3, .inr (0, [.int md, .ref dz, .int 0]))] := hD
  subst hw_2
  have hP9 := hP.sub (ws' := []) [] rfl
  have hD9 := hD.sub (ws' := []) [] (by decide) rfl
  refine W.widen (k := 0) (n := 0) (by omega) (by omega) ?_
  exact W.iret (v := 0) hx hb hr (fun t ht hW => ⟨⟨0, (), rfl, (by first | rfl | simp), (by rw [ht]; exact hP9), va_K.moved hW.alike hK, hD9⟩, hS.F ht⟩) hS.2.2 dX4_letters_7 hlocks
set_option maxHeartbeats 4000000 in
set_option maxRecDepth 100000 in
theorem c_X4_openWriteOf (l : Launch) (hlt : l.stackTraces = false) (D : va_G) (tC : Nat → ClassId) (dz sz : Nat) (x : Nat) (a1 : Nat) (a2 : Nat) (a3 : Nat) (a4 : Nat) (f : Nat) (q : Nat) (ow : Int32)  : vx_Met l yX4_openWriteOf wsX4_openWriteOf ({ frames := 6, cells := 1, slots := 6, locals := 82 }) (va_Pc [.ref x, .ref q] (pB D tC dz [(x, .inr (5, [.ref a1, .ref a2, .ref a3, .ref a4])), (q, .inr (4, [.int ow, .int 1, .ref f, .int 0, .int (-1), .null, .int (-1), .null]))] sz)) (va_Qr (fun (_ : Unit) => False) (fun (_ : Unit) (r : Nat) t => pA D tC (va_A [(x, .inr (5, [.ref a1, .ref a2, .ref a3, .ref a4])), (q, .inr (4, [.int ow, .int 1, .ref f, .int 0, .int (-1), .null, .int (-1), .null]))] sz) [(x, .inr (5, [.ref a1, .ref a2, .ref a3, .ref a4])), (q, .inr (4, [.int ow, .int 1, .ref f, .int 0, .int (-1), .null, .int (-1), .null]))] t) (va_A [(x, .inr (5, [.ref a1, .ref a2, .ref a3, .ref a4])), (q, .inr (4, [.int ow, .int 1, .ref f, .int 0, .int (-1), .null, .int (-1), .null]))] sz)) (xX (fun E => E = "java/lang/IllegalStateException") (va_A [(x, .inr (5, [.ref a1, .ref a2, .ref a3, .ref a4])), (q, .inr (4, [.int ow, .int 1, .ref f, .int 0, .int (-1), .null, .int (-1), .null]))] sz)) 1 6 (va_A [(x, .inr (5, [.ref a1, .ref a2, .ref a3, .ref a4])), (q, .inr (4, [.int ow, .int 1, .ref f, .int 0, .int (-1), .null, .int (-1), .null]))] sz) := by
  refine vx_ofW (cc := cX4_openWriteOf) (maxL := 3) (ret := (some (.object "NoticeStations$OpenWrite"))) (by decide) rfl ?_
  intro p e s m args below meth c s₁ B hml hnx hv
  obtain ⟨rfl, hsz, hP, hK, hD0, hN, hE⟩ := hv
  have hx := B.exec
  have hb := B.bytes
  have hr := B.returns
  have hts := atoms_spec (ws := wsX4_openWriteOf) B.pre
  have hown : s.vm.findClass RX4 = some m.cls := findClass_of_methodNamed B.named
  have hlocks := B.notSynchronized
  subst hsz
  have hD := hD0.self (sz := s.heap.size)
  generalize hAe : va_A [(x, .inr (5, [.ref a1, .ref a2, .ref a3, .ref a4])), (q, .inr (4, [.int ow, .int 1, .ref f, .int 0, .int (-1), .null, .int (-1), .null]))] s.heap.size = A at hD hE ⊢
  have hA : ∀ q : Nat, s.heap.size ≤ q → A q := fun q h => by rw [← hAe]; exact Or.inr h
  have hS : va_S A s.heap s.heap [] := va_S.rf
  have hP : va_P D vwCl [(x, .inr (5, [.ref a1, .ref a2, .ref a3, .ref a4])), (q, .inr (4, [.int ow, .int 1, .ref f, .int 0, .int (-1), .null, .int (-1), .null]))] s.heap := hP
  have hl := lv_entry ([.ref x, .ref q]) (n := 3) (Nat.le_of_ble_eq_true rfl)
  rw [lg_entry_eq]
  generalize (lg_sl ([.ref x, .ref q]) ++ List.replicate (3 - (lg_sl ([.ref x, .ref q])).length) Slot.unset).toArray = ls at hl ⊢
  have hl : lv_has ls 3 [(0, .ref x), (1, .ref q)] := hl
  have w_0 := hts (.classLink RX4 91 "java/lang/IllegalStateException") (by decide +kernel)
  have w_1 := hts (.initialized "java/lang/IllegalStateException") (by decide +kernel)
  refine lv_aload_n hx hb dX4_openWriteOf_0 rfl (lv_at hl 1 rfl) ?_
  refine va_getN (host := "NoticeStations") (D := D) (ci := 4) (v := .null) (C := RX3) (T := TX3) (N := 8) hx hb hts in_X4_openWriteOf_X3 hown hK hP 1 rfl rfl 7 (by decide) (va_Nw.use rfl (hN.1 (.fieldLinkNest "NoticeStations" 81 "NoticeStations$Station" "open" "LNoticeStations$OpenWrite;" "NoticeStations") (by decide +kernel))) (fun _ h9 => h9) rfl dX4_openWriteOf_1 ?_
  refine lv_astore_nN (lv' := [(2, .null), (0, .ref x), (1, .ref q)]) hx hb dX4_openWriteOf_4 rfl hl (by decide) rfl (fun ls hl => ?_)
  refine lv_aload_nN hx hb dX4_openWriteOf_5 rfl (lv_at hl 0 rfl) ?_
  refine lv_ifnonnullN hx hb dX4_openWriteOf_6 ?_
  obtain ⟨sa, hstr⟩ := hN.2.1 (259, "no open write") (by decide +kernel)
  exact vx_throwSW hx hb hlt hown (by decide +kernel) (by decide +kernel) w_0 w_1 hstr (vx_hat (fun w hw => hts w (th_X4_openWriteOf_ISE w hw)) at_ISE_rest (at_ISE_hat hN)) at_ISE_ok hE.1 hE.2.1 hS (by rw [hml]; exact hl.1) dX4_openWriteOf_9 dX4_openWriteOf_12 dX4_openWriteOf_13 dX4_openWriteOf_16 dX4_openWriteOf_19 (fun x h => (hnx x h).elim) (by decide) (by decide) (Nat.le_of_ble_eq_true rfl) (Nat.le_of_ble_eq_true rfl) hlocks (fun t _ h1 h2 => ⟨(), trivial, rfl, xF hS h1 h2⟩) hS.2.2 (Nat.le_of_ble_eq_true rfl) (Nat.le_of_ble_eq_true rfl)
set_option maxHeartbeats 4000000 in
set_option maxRecDepth 100000 in
theorem c_X4_giveUp (l : Launch) (hlt : l.stackTraces = false) (D : va_G) (tC : Nat → ClassId) (dz sz : Nat) (x : Nat) (a1 : Nat) (a2 : Nat) (a3 : Nat) (a4 : Nat) (fs : Nat → Option Nat) (p0 : Int32) (f : Nat) (q : Nat) (ow : Int32) (hq : ∀ k : Nat, k < 5 → p0 = nI k → fs k = some q) : vx_Met l yX4_giveUp wsX4_giveUp ({ frames := 7, cells := 2, slots := 12, locals := 104 }) (va_Pc [.ref x, .int p0] (pB D tC dz [(x, .inr (5, [.ref a1, .ref a2, .ref a3, .ref a4])), (a1, wT tC 5 fs), (q, .inr (4, [.int ow, .int 1, .ref f, .int 0, .int (-1), .null, .int (-1), .null]))] sz)) (va_Qv (fun (_ : Unit) => False) (fun (_ : Unit) t => pA D tC (va_A [(x, .inr (5, [.ref a1, .ref a2, .ref a3, .ref a4])), (a1, wT tC 5 fs), (q, .inr (4, [.int ow, .int 1, .ref f, .int 0, .int (-1), .null, .int (-1), .null]))] sz) [] t) (va_A [(x, .inr (5, [.ref a1, .ref a2, .ref a3, .ref a4])), (a1, wT tC 5 fs), (q, .inr (4, [.int ow, .int 1, .ref f, .int 0, .int (-1), .null, .int (-1), .null]))] sz)) (xX (fun E => (E = "java/lang/IndexOutOfBoundsException" ∧ (p0 < 0 ∨ 5 ≤ p0)) ∨ (E = "java/lang/IllegalStateException" ∧ ¬ (p0 < 0 ∨ 5 ≤ p0))) (va_A [(x, .inr (5, [.ref a1, .ref a2, .ref a3, .ref a4])), (a1, wT tC 5 fs), (q, .inr (4, [.int ow, .int 1, .ref f, .int 0, .int (-1), .null, .int (-1), .null]))] sz)) 2 12 (va_A [(x, .inr (5, [.ref a1, .ref a2, .ref a3, .ref a4])), (a1, wT tC 5 fs), (q, .inr (4, [.int ow, .int 1, .ref f, .int 0, .int (-1), .null, .int (-1), .null]))] sz) := by
  refine vx_ofW (cc := cX4_giveUp) (maxL := 5) (ret := none) (by decide) rfl ?_
  intro p e s m args below meth c s₁ B hml hnx hv
  obtain ⟨rfl, hsz, hP, hK, hD0, hN, hE⟩ := hv
  have hx := B.exec
  have hb := B.bytes
  have hr := B.returns
  have hts := atoms_spec (ws := wsX4_giveUp) B.pre
  have hown : s.vm.findClass RX4 = some m.cls := findClass_of_methodNamed B.named
  have hlocks := B.notSynchronized
  subst hsz
  have hD := hD0.self (sz := s.heap.size)
  generalize hAe : va_A [(x, .inr (5, [.ref a1, .ref a2, .ref a3, .ref a4])), (a1, wT tC 5 fs), (q, .inr (4, [.int ow, .int 1, .ref f, .int 0, .int (-1), .null, .int (-1), .null]))] s.heap.size = A at hD hE ⊢
  have hA : ∀ q : Nat, s.heap.size ≤ q → A q := fun q h => by rw [← hAe]; exact Or.inr h
  have hS : va_S A s.heap s.heap [] := va_S.rf
  have hP : va_P D vwCl [(x, .inr (5, [.ref a1, .ref a2, .ref a3, .ref a4])), (a1, wT tC 5 fs), (q, .inr (4, [.int ow, .int 1, .ref f, .int 0, .int (-1), .null, .int (-1), .null]))] s.heap := hP
  have hl := lv_entry ([.ref x, .int p0]) (n := 5) (Nat.le_of_ble_eq_true rfl)
  rw [lg_entry_eq]
  generalize (lg_sl ([.ref x, .int p0]) ++ List.replicate (5 - (lg_sl ([.ref x, .int p0])).length) Slot.unset).toArray = ls at hl ⊢
  have hl : lv_has ls 5 [(0, .ref x), (1, .int p0)] := hl
  refine lv_aload_n hx hb dX4_giveUp_0 rfl (lv_at hl 0 rfl) ?_
  refine lv_iload_n hx hb dX4_giveUp_1 rfl (lv_at hl 1 rfl) ?_
  have hPc := hP.sub (ws' := [(x, .inr (5, [.ref a1, .ref a2, .ref a3, .ref a4])), (a1, wT tC 5 fs)]) [0, 1] rfl
  have hDc := hD.sub (ws' := [(x, .inr (5, [.ref a1, .ref a2, .ref a3, .ref a4])), (a1, wT tC 5 fs)]) [0, 1] (by decide) rfl
  have hFc := va_free (wc := [(x, .inr (5, [.ref a1, .ref a2, .ref a3, .ref a4])), (a1, wT tC 5 fs)]) hD hS hA [0, 1] rfl
  refine vx_callr (vx_runV (As := [.int p0]) (rest := []) ⟨hx, hb, hml, hown, hts⟩ (c_X4_stationAt l hlt D tC dz s.heap.size x a1 a2 a3 a4 fs p0 q hq) (cwV 1 hts gX4_giveUp_X4_stationAt rfl rfl rfl (by decide +kernel) ⟨Nat.le_of_ble_eq_true rfl, Nat.le_of_ble_eq_true rfl⟩) ⟨pB_blind, va_recv hK hPc (ci := 5) (q0 := 0) rfl rfl, pB_at hPc hDc hK hN hE hS hFc⟩ rfl rfl hl.1 rfl (lv_room (Nat.le_of_ble_eq_true rfl)) dX4_giveUp_2 ⟨Nat.le_of_ble_eq_true rfl, Nat.le_of_ble_eq_true rfl⟩) hS (fun q _ h => hFc q h) hFc (fun q _ h => hFc q h) (fun E ce q9 u t H1 locs ht hvm hpx hPE hz1 hk1 hS hce hcv hcl => ?_) (fun u r1 t H1 locs ht hvm hw hB hz1 hk1 hS => ?_)
  · skip
    exact vx_out (fun x h => (hnx x h).elim) hlocks hce hcv hcl (fun t9 h9 _ => ⟨(), trivial, Or.inl hPE, hS.F h9⟩) hS.2.2 (Nat.le_of_ble_eq_true rfl) (Nat.le_of_ble_eq_true rfl)
  · skip
    obtain ⟨k_1, k_2, hP1, _, hD1⟩ := hB
    have hw_3 := hw
    rw [ht] at hP1
    obtain ⟨hP, hD⟩ := va_join (wr := [(q, .inr (4, [.int ow, .int 1, .ref f, .int 0, .int (-1), .null, .int (-1), .null]))]) (w1 := [(x, .inr (5, [.ref a1, .ref a2, .ref a3, .ref a4])), (a1, wT tC 5 fs)]) hP hD [0, 1] [2] rfl rfl (by decide) (by decide) hk1 hFc hP1 hD1
    generalize H1 = H at hP hS ⊢
    have hP : va_P D vwCl [(q, .inr (4, [.int ow, .int 1, .ref f, .int 0, .int (-1), .null, .int (-1), .null])), (x, .inr (5, [.ref a1, .ref a2, .ref a3, .ref a4])), (a1, wT tC 5 fs)] H := hP
    have hD : va_D A [(q, .inr (4, [.int ow, .int 1, .ref f, .int 0, .int (-1), .null, .int (-1), .null])), (x, .inr (5, [.ref a1, .ref a2, .ref a3, .ref a4])), (a1, wT tC 5 fs)] := hD
    refine W.widen (k := 1) (n := 6) (by omega) (by omega) ?_
    rw [k_1]
    refine lv_astore_n (lv' := [(2, .ref q), (0, .ref x), (1, .int p0)]) hx hb dX4_giveUp_5 rfl hl (by decide) rfl (fun ls hl => ?_)
    refine lv_aload_n hx hb dX4_giveUp_6 rfl (lv_at hl 1 rfl) ?_
    refine lv_aload_n hx hb dX4_giveUp_7 rfl (lv_at hl 0 rfl) ?_
    have hPc := hP.sub (ws' := [(x, .inr (5, [.ref a1, .ref a2, .ref a3, .ref a4])), (q, .inr (4, [.int ow, .int 1, .ref f, .int 0, .int (-1), .null, .int (-1), .null]))]) [1, 0] rfl
    have hDc := hD.sub (ws' := [(x, .inr (5, [.ref a1, .ref a2, .ref a3, .ref a4])), (q, .inr (4, [.int ow, .int 1, .ref f, .int 0, .int (-1), .null, .int (-1), .null]))]) [1, 0] (by decide) rfl
    have hFc := va_free (wc := [(x, .inr (5, [.ref a1, .ref a2, .ref a3, .ref a4])), (q, .inr (4, [.int ow, .int 1, .ref f, .int 0, .int (-1), .null, .int (-1), .null]))]) hD hS hA [1, 0] rfl
    refine vx_callr (vx_runV (As := [.ref q]) (rest := []) ⟨hx, hb, hml, hown, hts⟩ (c_X4_openWriteOf l hlt D tC dz H.size x a1 a2 a3 a4 f q ow ) (cwV 1 hts gX4_giveUp_X4_openWriteOf rfl rfl rfl (by decide +kernel) ⟨Nat.le_of_ble_eq_true rfl, Nat.le_of_ble_eq_true rfl⟩) ⟨pB_blind, va_recv hK hPc (ci := 5) (q0 := 0) rfl rfl, pB_at hPc hDc hK hN hE hS hFc⟩ rfl rfl hl.1 rfl (lv_room (Nat.le_of_ble_eq_true rfl)) dX4_giveUp_8 ⟨Nat.le_of_ble_eq_true rfl, Nat.le_of_ble_eq_true rfl⟩) hS (fun q _ h => hFc q h) hFc (fun q _ h => hFc q h) (fun E ce q9 u t H1 locs ht hvm hpx hPE hz1 hk1 hS hce hcv hcl => ?_) (fun _ _ _ _ _ _ _ hw => hw.elim)
    exact vx_out (fun x h => (hnx x h).elim) hlocks hce hcv hcl (fun t9 h9 _ => ⟨(), trivial, Or.inr ⟨hPE, k_2⟩, hS.F h9⟩) hS.2.2 (Nat.le_of_ble_eq_true rfl) (Nat.le_of_ble_eq_true rfl)
set_option maxHeartbeats 4000000 in
set_option maxRecDepth 100000 in
theorem c_X4_resend (l : Launch) (hlt : l.stackTraces = false) (D : va_G) (tC : Nat → ClassId) (dz sz : Nat) (x : Nat) (a1 : Nat) (a2 : Nat) (a3 : Nat) (a4 : Nat) (fs : Nat → Option Nat) (p0 : Int32) (f : Nat) (q : Nat) (ow : Int32) (hq : ∀ k : Nat, k < 5 → p0 = nI k → fs k = some q) : vx_Met l yX4_resend wsX4_resend ({ frames := 7, cells := 2, slots := 12, locals := 104 }) (va_Pc [.ref x, .int p0] (pB D tC dz [(x, .inr (5, [.ref a1, .ref a2, .ref a3, .ref a4])), (a1, wT tC 5 fs), (q, .inr (4, [.int ow, .int 1, .ref f, .int 0, .int (-1), .null, .int (-1), .null]))] sz)) (va_Qi (fun (r : Int32) (_ : Unit) => False) (fun (_ : Unit) t => pA D tC (va_A [(x, .inr (5, [.ref a1, .ref a2, .ref a3, .ref a4])), (a1, wT tC 5 fs), (q, .inr (4, [.int ow, .int 1, .ref f, .int 0, .int (-1), .null, .int (-1), .null]))] sz) [] t) (va_A [(x, .inr (5, [.ref a1, .ref a2, .ref a3, .ref a4])), (a1, wT tC 5 fs), (q, .inr (4, [.int ow, .int 1, .ref f, .int 0, .int (-1), .null, .int (-1), .null]))] sz)) (xX (fun E => (E = "java/lang/IndexOutOfBoundsException" ∧ (p0 < 0 ∨ 5 ≤ p0)) ∨ (E = "java/lang/IllegalStateException" ∧ ¬ (p0 < 0 ∨ 5 ≤ p0))) (va_A [(x, .inr (5, [.ref a1, .ref a2, .ref a3, .ref a4])), (a1, wT tC 5 fs), (q, .inr (4, [.int ow, .int 1, .ref f, .int 0, .int (-1), .null, .int (-1), .null]))] sz)) 2 12 (va_A [(x, .inr (5, [.ref a1, .ref a2, .ref a3, .ref a4])), (a1, wT tC 5 fs), (q, .inr (4, [.int ow, .int 1, .ref f, .int 0, .int (-1), .null, .int (-1), .null]))] sz) := by
  refine vx_ofW (cc := cX4_resend) (maxL := 5) (ret := (some .int)) (by decide) rfl ?_
  intro p e s m args below meth c s₁ B hml hnx hv
  obtain ⟨rfl, hsz, hP, hK, hD0, hN, hE⟩ := hv
  have hx := B.exec
  have hb := B.bytes
  have hr := B.returns
  have hts := atoms_spec (ws := wsX4_resend) B.pre
  have hown : s.vm.findClass RX4 = some m.cls := findClass_of_methodNamed B.named
  have hlocks := B.notSynchronized
  subst hsz
  have hD := hD0.self (sz := s.heap.size)
  generalize hAe : va_A [(x, .inr (5, [.ref a1, .ref a2, .ref a3, .ref a4])), (a1, wT tC 5 fs), (q, .inr (4, [.int ow, .int 1, .ref f, .int 0, .int (-1), .null, .int (-1), .null]))] s.heap.size = A at hD hE ⊢
  have hA : ∀ q : Nat, s.heap.size ≤ q → A q := fun q h => by rw [← hAe]; exact Or.inr h
  have hS : va_S A s.heap s.heap [] := va_S.rf
  have hP : va_P D vwCl [(x, .inr (5, [.ref a1, .ref a2, .ref a3, .ref a4])), (a1, wT tC 5 fs), (q, .inr (4, [.int ow, .int 1, .ref f, .int 0, .int (-1), .null, .int (-1), .null]))] s.heap := hP
  have hl := lv_entry ([.ref x, .int p0]) (n := 5) (Nat.le_of_ble_eq_true rfl)
  rw [lg_entry_eq]
  generalize (lg_sl ([.ref x, .int p0]) ++ List.replicate (5 - (lg_sl ([.ref x, .int p0])).length) Slot.unset).toArray = ls at hl ⊢
  have hl : lv_has ls 5 [(0, .ref x), (1, .int p0)] := hl
  refine lv_aload_n hx hb dX4_resend_0 rfl (lv_at hl 0 rfl) ?_
  refine lv_iload_n hx hb dX4_resend_1 rfl (lv_at hl 1 rfl) ?_
  have hPc := hP.sub (ws' := [(x, .inr (5, [.ref a1, .ref a2, .ref a3, .ref a4])), (a1, wT tC 5 fs)]) [0, 1] rfl
  have hDc := hD.sub (ws' := [(x, .inr (5, [.ref a1, .ref a2, .ref a3, .ref a4])), (a1, wT tC 5 fs)]) [0, 1] (by decide) rfl
  have hFc := va_free (wc := [(x, .inr (5, [.ref a1, .ref a2, .ref a3, .ref a4])), (a1, wT tC 5 fs)]) hD hS hA [0, 1] rfl
  refine vx_callr (vx_runV (As := [.int p0]) (rest := []) ⟨hx, hb, hml, hown, hts⟩ (c_X4_stationAt l hlt D tC dz s.heap.size x a1 a2 a3 a4 fs p0 q hq) (cwV 1 hts gX4_resend_X4_stationAt rfl rfl rfl (by decide +kernel) ⟨Nat.le_of_ble_eq_true rfl, Nat.le_of_ble_eq_true rfl⟩) ⟨pB_blind, va_recv hK hPc (ci := 5) (q0 := 0) rfl rfl, pB_at hPc hDc hK hN hE hS hFc⟩ rfl rfl hl.1 rfl (lv_room (Nat.le_of_ble_eq_true rfl)) dX4_resend_2 ⟨Nat.le_of_ble_eq_true rfl, Nat.le_of_ble_eq_true rfl⟩) hS (fun q _ h => hFc q h) hFc (fun q _ h => hFc q h) (fun E ce q9 u t H1 locs ht hvm hpx hPE hz1 hk1 hS hce hcv hcl => ?_) (fun u r1 t H1 locs ht hvm hw hB hz1 hk1 hS => ?_)
  · skip
    exact vx_out (fun x h => (hnx x h).elim) hlocks hce hcv hcl (fun t9 h9 _ => ⟨(), trivial, Or.inl hPE, hS.F h9⟩) hS.2.2 (Nat.le_of_ble_eq_true rfl) (Nat.le_of_ble_eq_true rfl)
  · skip
    obtain ⟨k_1, k_2, hP1, _, hD1⟩ := hB
    have hw_3 := hw
    rw [ht] at hP1
    obtain ⟨hP, hD⟩ := va_join (wr := [(q, .inr (4, [.int ow, .int 1, .ref f, .int 0, .int (-1), .null, .int (-1), .null]))]) (w1 := [(x, .inr (5, [.ref a1, .ref a2, .ref a3, .ref a4])), (a1, wT tC 5 fs)]) hP hD [0, 1] [2] rfl rfl (by decide) (by decide) hk1 hFc hP1 hD1
    generalize H1 = H at hP hS ⊢
    have hP : va_P D vwCl [(q, .inr (4, [.int ow, .int 1, .ref f, .int 0, .int (-1), .null, .int (-1), .null])), (x, .inr (5, [.ref a1, .ref a2, .ref a3, .ref a4])), (a1, wT tC 5 fs)] H := hP
    have hD : va_D A [(q, .inr (4, [.int ow, .int 1, .ref f, .int 0, .int (-1), .null, .int (-1), .null])), (x, .inr (5, [.ref a1, .ref a2, .ref a3, .ref a4])), (a1, wT tC 5 fs)] := hD
    refine W.widen (k := 1) (n := 6) (by omega) (by omega) ?_
    rw [k_1]
    refine lv_astore_n (lv' := [(2, .ref q), (0, .ref x), (1, .int p0)]) hx hb dX4_resend_5 rfl hl (by decide) rfl (fun ls hl => ?_)
    refine lv_aload_n hx hb dX4_resend_6 rfl (lv_at hl 1 rfl) ?_
    refine lv_aload_n hx hb dX4_resend_7 rfl (lv_at hl 0 rfl) ?_
    have hPc := hP.sub (ws' := [(x, .inr (5, [.ref a1, .ref a2, .ref a3, .ref a4])), (q, .inr (4, [.int ow, .int 1, .ref f, .int 0, .int (-1), .null, .int (-1), .null]))]) [1, 0] rfl
    have hDc := hD.sub (ws' := [(x, .inr (5, [.ref a1, .ref a2, .ref a3, .ref a4])), (q, .inr (4, [.int ow, .int 1, .ref f, .int 0, .int (-1), .null, .int (-1), .null]))]) [1, 0] (by decide) rfl
    have hFc := va_free (wc := [(x, .inr (5, [.ref a1, .ref a2, .ref a3, .ref a4])), (q, .inr (4, [.int ow, .int 1, .ref f, .int 0, .int (-1), .null, .int (-1), .null]))]) hD hS hA [1, 0] rfl
    refine vx_callr (vx_runV (As := [.ref q]) (rest := []) ⟨hx, hb, hml, hown, hts⟩ (c_X4_openWriteOf l hlt D tC dz H.size x a1 a2 a3 a4 f q ow ) (cwV 1 hts gX4_resend_X4_openWriteOf rfl rfl rfl (by decide +kernel) ⟨Nat.le_of_ble_eq_true rfl, Nat.le_of_ble_eq_true rfl⟩) ⟨pB_blind, va_recv hK hPc (ci := 5) (q0 := 0) rfl rfl, pB_at hPc hDc hK hN hE hS hFc⟩ rfl rfl hl.1 rfl (lv_room (Nat.le_of_ble_eq_true rfl)) dX4_resend_8 ⟨Nat.le_of_ble_eq_true rfl, Nat.le_of_ble_eq_true rfl⟩) hS (fun q _ h => hFc q h) hFc (fun q _ h => hFc q h) (fun E ce q9 u t H1 locs ht hvm hpx hPE hz1 hk1 hS hce hcv hcl => ?_) (fun _ _ _ _ _ _ _ hw => hw.elim)
    exact vx_out (fun x h => (hnx x h).elim) hlocks hce hcv hcl (fun t9 h9 _ => ⟨(), trivial, Or.inr ⟨hPE, k_2⟩, hS.F h9⟩) hS.2.2 (Nat.le_of_ble_eq_true rfl) (Nat.le_of_ble_eq_true rfl)
set_option maxHeartbeats 4000000 in
set_option maxRecDepth 100000 in
theorem c_X4_decide (l : Launch) (hlt : l.stackTraces = false) (D : va_G) (tC : Nat → ClassId) (dz sz : Nat) (x : Nat) (a1 : Nat) (a2 : Nat) (a3 : Nat) (a4 : Nat) (fs : Nat → Option Nat) (p0 : Int32) (f : Nat) (q : Nat) (ow : Int32) (hq : ∀ k : Nat, k < 5 → p0 = nI k → fs k = some q) : vx_Met l yX4_decide wsX4_decide ({ frames := 7, cells := 2, slots := 12, locals := 103 }) (va_Pc [.ref x, .int p0] (pB D tC dz [(x, .inr (5, [.ref a1, .ref a2, .ref a3, .ref a4])), (a1, wT tC 5 fs), (q, .inr (4, [.int ow, .int 1, .ref f, .int 0, .int (-1), .null, .int (-1), .null]))] sz)) (va_Qi (fun (r : Int32) (_ : Unit) => False) (fun (_ : Unit) t => pA D tC (va_A [(x, .inr (5, [.ref a1, .ref a2, .ref a3, .ref a4])), (a1, wT tC 5 fs), (q, .inr (4, [.int ow, .int 1, .ref f, .int 0, .int (-1), .null, .int (-1), .null]))] sz) [] t) (va_A [(x, .inr (5, [.ref a1, .ref a2, .ref a3, .ref a4])), (a1, wT tC 5 fs), (q, .inr (4, [.int ow, .int 1, .ref f, .int 0, .int (-1), .null, .int (-1), .null]))] sz)) (xX (fun E => (E = "java/lang/IndexOutOfBoundsException" ∧ (p0 < 0 ∨ 5 ≤ p0)) ∨ (E = "java/lang/IllegalStateException" ∧ ¬ (p0 < 0 ∨ 5 ≤ p0))) (va_A [(x, .inr (5, [.ref a1, .ref a2, .ref a3, .ref a4])), (a1, wT tC 5 fs), (q, .inr (4, [.int ow, .int 1, .ref f, .int 0, .int (-1), .null, .int (-1), .null]))] sz)) 2 12 (va_A [(x, .inr (5, [.ref a1, .ref a2, .ref a3, .ref a4])), (a1, wT tC 5 fs), (q, .inr (4, [.int ow, .int 1, .ref f, .int 0, .int (-1), .null, .int (-1), .null]))] sz) := by
  refine vx_ofW (cc := cX4_decide) (maxL := 5) (ret := (some .boolean)) (by decide) rfl ?_
  intro p e s m args below meth c s₁ B hml hnx hv
  obtain ⟨rfl, hsz, hP, hK, hD0, hN, hE⟩ := hv
  have hx := B.exec
  have hb := B.bytes
  have hr := B.returns
  have hts := atoms_spec (ws := wsX4_decide) B.pre
  have hown : s.vm.findClass RX4 = some m.cls := findClass_of_methodNamed B.named
  have hlocks := B.notSynchronized
  subst hsz
  have hD := hD0.self (sz := s.heap.size)
  generalize hAe : va_A [(x, .inr (5, [.ref a1, .ref a2, .ref a3, .ref a4])), (a1, wT tC 5 fs), (q, .inr (4, [.int ow, .int 1, .ref f, .int 0, .int (-1), .null, .int (-1), .null]))] s.heap.size = A at hD hE ⊢
  have hA : ∀ q : Nat, s.heap.size ≤ q → A q := fun q h => by rw [← hAe]; exact Or.inr h
  have hS : va_S A s.heap s.heap [] := va_S.rf
  have hP : va_P D vwCl [(x, .inr (5, [.ref a1, .ref a2, .ref a3, .ref a4])), (a1, wT tC 5 fs), (q, .inr (4, [.int ow, .int 1, .ref f, .int 0, .int (-1), .null, .int (-1), .null]))] s.heap := hP
  have hl := lv_entry ([.ref x, .int p0]) (n := 5) (Nat.le_of_ble_eq_true rfl)
  rw [lg_entry_eq]
  generalize (lg_sl ([.ref x, .int p0]) ++ List.replicate (5 - (lg_sl ([.ref x, .int p0])).length) Slot.unset).toArray = ls at hl ⊢
  have hl : lv_has ls 5 [(0, .ref x), (1, .int p0)] := hl
  have w_0 := hts (.classLink RX4 91 "java/lang/IllegalStateException") (by decide +kernel)
  have w_1 := hts (.initialized "java/lang/IllegalStateException") (by decide +kernel)
  refine lv_aload_n hx hb dX4_decide_0 rfl (lv_at hl 0 rfl) ?_
  refine lv_iload_n hx hb dX4_decide_1 rfl (lv_at hl 1 rfl) ?_
  have hPc := hP.sub (ws' := [(x, .inr (5, [.ref a1, .ref a2, .ref a3, .ref a4])), (a1, wT tC 5 fs)]) [0, 1] rfl
  have hDc := hD.sub (ws' := [(x, .inr (5, [.ref a1, .ref a2, .ref a3, .ref a4])), (a1, wT tC 5 fs)]) [0, 1] (by decide) rfl
  have hFc := va_free (wc := [(x, .inr (5, [.ref a1, .ref a2, .ref a3, .ref a4])), (a1, wT tC 5 fs)]) hD hS hA [0, 1] rfl
  refine vx_callr (vx_runV (As := [.int p0]) (rest := []) ⟨hx, hb, hml, hown, hts⟩ (c_X4_stationAt l hlt D tC dz s.heap.size x a1 a2 a3 a4 fs p0 q hq) (cwV 1 hts gX4_decide_X4_stationAt rfl rfl rfl (by decide +kernel) ⟨Nat.le_of_ble_eq_true rfl, Nat.le_of_ble_eq_true rfl⟩) ⟨pB_blind, va_recv hK hPc (ci := 5) (q0 := 0) rfl rfl, pB_at hPc hDc hK hN hE hS hFc⟩ rfl rfl hl.1 rfl (lv_room (Nat.le_of_ble_eq_true rfl)) dX4_decide_2 ⟨Nat.le_of_ble_eq_true rfl, Nat.le_of_ble_eq_true rfl⟩) hS (fun q _ h => hFc q h) hFc (fun q _ h => hFc q h) (fun E ce q9 u t H1 locs ht hvm hpx hPE hz1 hk1 hS hce hcv hcl => ?_) (fun u r1 t H1 locs ht hvm hw hB hz1 hk1 hS => ?_)
  · skip
    exact vx_out (fun x h => (hnx x h).elim) hlocks hce hcv hcl (fun t9 h9 _ => ⟨(), trivial, Or.inl hPE, hS.F h9⟩) hS.2.2 (Nat.le_of_ble_eq_true rfl) (Nat.le_of_ble_eq_true rfl)
  · skip
    obtain ⟨k_1, k_2, hP1, _, hD1⟩ := hB
    have hw_3 := hw
    rw [ht] at hP1
    obtain ⟨hP, hD⟩ := va_join (wr := [(q, .inr (4, [.int ow, .int 1, .ref f, .int 0, .int (-1), .null, .int (-1), .null]))]) (w1 := [(x, .inr (5, [.ref a1, .ref a2, .ref a3, .ref a4])), (a1, wT tC 5 fs)]) hP hD [0, 1] [2] rfl rfl (by decide) (by decide) hk1 hFc hP1 hD1
    generalize H1 = H at hP hS ⊢
    have hP : va_P D vwCl [(q, .inr (4, [.int ow, .int 1, .ref f, .int 0, .int (-1), .null, .int (-1), .null])), (x, .inr (5, [.ref a1, .ref a2, .ref a3, .ref a4])), (a1, wT tC 5 fs)] H := hP
    have hD : va_D A [(q, .inr (4, [.int ow, .int 1, .ref f, .int 0, .int (-1), .null, .int (-1), .null])), (x, .inr (5, [.ref a1, .ref a2, .ref a3, .ref a4])), (a1, wT tC 5 fs)] := hD
    refine W.widen (k := 1) (n := 6) (by omega) (by omega) ?_
    rw [k_1]
    refine lv_astore_n (lv' := [(2, .ref q), (0, .ref x), (1, .int p0)]) hx hb dX4_decide_5 rfl hl (by decide) rfl (fun ls hl => ?_)
    refine lv_aload_n hx hb dX4_decide_6 rfl (lv_at hl 0 rfl) ?_
    refine va_getN (host := "NoticeStations") (D := D) (ci := 4) (v := .null) (C := RX3) (T := TX3) (N := 8) hx hb hts in_X4_decide_X3 hown hK hP 0 rfl rfl 7 (by decide) (va_Nw.use rfl (hN.1 (.fieldLinkNest "NoticeStations" 81 "NoticeStations$Station" "open" "LNoticeStations$OpenWrite;" "NoticeStations") (by decide +kernel))) (fun _ h9 => h9) rfl dX4_decide_7 ?_
    refine lv_astore_nN (lv' := [(3, .null), (2, .ref q), (0, .ref x), (1, .int p0)]) hx hb dX4_decide_10 rfl hl (by decide) rfl (fun ls hl => ?_)
    refine lv_aload_nN hx hb dX4_decide_11 rfl (lv_at hl 0 rfl) ?_
    refine lv_ifnullN (tgt := 22) hx hb dX4_decide_12 (by decide) ?_
    obtain ⟨sa, hstr⟩ := hN.2.1 (93, "no open write that collects") (by decide +kernel)
    exact vx_throwS hx hb hlt hown (by decide +kernel) (by decide +kernel) w_0 w_1 hstr (vx_hat (fun w hw => hts w (th_X4_decide_ISE w hw)) at_ISE_rest (at_ISE_hat hN)) at_ISE_ok hE.1 hE.2.1 hS (by rw [hml]; exact hl.1) dX4_decide_22 dX4_decide_25 dX4_decide_26 dX4_decide_28 dX4_decide_31 (fun x h => (hnx x h).elim) (by decide) (by decide) (Nat.le_of_ble_eq_true rfl) (Nat.le_of_ble_eq_true rfl) hlocks (fun t _ h1 h2 => ⟨(), trivial, Or.inr ⟨rfl, k_2⟩, xF hS h1 h2⟩) hS.2.2 (Nat.le_of_ble_eq_true rfl) (Nat.le_of_ble_eq_true rfl)
set_option maxHeartbeats 4000000 in
set_option maxRecDepth 100000 in
theorem c_X4_unlock (l : Launch) (hlt : l.stackTraces = false) (D : va_G) (tC : Nat → ClassId) (dz sz : Nat) (x : Nat) (a1 : Nat) (a2 : Nat) (a3 : Nat) (a4 : Nat) (fs : Nat → Option Nat) (p0 : Int32) (f : Nat) (q : Nat) (ow : Int32) (hq : ∀ k : Nat, k < 5 → p0 = nI k → fs k = some q) : vx_Met l yX4_unlock wsX4_unlock ({ frames := 7, cells := 2, slots := 12, locals := 103 }) (va_Pc [.ref x, .int p0] (pB D tC dz [(x, .inr (5, [.ref a1, .ref a2, .ref a3, .ref a4])), (a1, wT tC 5 fs), (q, .inr (4, [.int ow, .int 1, .ref f, .int 0, .int (-1), .null, .int (-1), .null]))] sz)) (va_Qv (fun (_ : Unit) => False) (fun (_ : Unit) t => pA D tC (va_A [(x, .inr (5, [.ref a1, .ref a2, .ref a3, .ref a4])), (a1, wT tC 5 fs), (q, .inr (4, [.int ow, .int 1, .ref f, .int 0, .int (-1), .null, .int (-1), .null]))] sz) [] t) (va_A [(x, .inr (5, [.ref a1, .ref a2, .ref a3, .ref a4])), (a1, wT tC 5 fs), (q, .inr (4, [.int ow, .int 1, .ref f, .int 0, .int (-1), .null, .int (-1), .null]))] sz)) (xX (fun E => (E = "java/lang/IndexOutOfBoundsException" ∧ (p0 < 0 ∨ 5 ≤ p0)) ∨ (E = "java/lang/IllegalStateException" ∧ ¬ (p0 < 0 ∨ 5 ≤ p0))) (va_A [(x, .inr (5, [.ref a1, .ref a2, .ref a3, .ref a4])), (a1, wT tC 5 fs), (q, .inr (4, [.int ow, .int 1, .ref f, .int 0, .int (-1), .null, .int (-1), .null]))] sz)) 2 12 (va_A [(x, .inr (5, [.ref a1, .ref a2, .ref a3, .ref a4])), (a1, wT tC 5 fs), (q, .inr (4, [.int ow, .int 1, .ref f, .int 0, .int (-1), .null, .int (-1), .null]))] sz) := by
  refine vx_ofW (cc := cX4_unlock) (maxL := 3) (ret := none) (by decide) rfl ?_
  intro p e s m args below meth c s₁ B hml hnx hv
  obtain ⟨rfl, hsz, hP, hK, hD0, hN, hE⟩ := hv
  have hx := B.exec
  have hb := B.bytes
  have hr := B.returns
  have hts := atoms_spec (ws := wsX4_unlock) B.pre
  have hown : s.vm.findClass RX4 = some m.cls := findClass_of_methodNamed B.named
  have hlocks := B.notSynchronized
  subst hsz
  have hD := hD0.self (sz := s.heap.size)
  generalize hAe : va_A [(x, .inr (5, [.ref a1, .ref a2, .ref a3, .ref a4])), (a1, wT tC 5 fs), (q, .inr (4, [.int ow, .int 1, .ref f, .int 0, .int (-1), .null, .int (-1), .null]))] s.heap.size = A at hD hE ⊢
  have hA : ∀ q : Nat, s.heap.size ≤ q → A q := fun q h => by rw [← hAe]; exact Or.inr h
  have hS : va_S A s.heap s.heap [] := va_S.rf
  have hP : va_P D vwCl [(x, .inr (5, [.ref a1, .ref a2, .ref a3, .ref a4])), (a1, wT tC 5 fs), (q, .inr (4, [.int ow, .int 1, .ref f, .int 0, .int (-1), .null, .int (-1), .null]))] s.heap := hP
  have hl := lv_entry ([.ref x, .int p0]) (n := 3) (Nat.le_of_ble_eq_true rfl)
  rw [lg_entry_eq]
  generalize (lg_sl ([.ref x, .int p0]) ++ List.replicate (3 - (lg_sl ([.ref x, .int p0])).length) Slot.unset).toArray = ls at hl ⊢
  have hl : lv_has ls 3 [(0, .ref x), (1, .int p0)] := hl
  have w_0 := hts (.classLink RX4 91 "java/lang/IllegalStateException") (by decide +kernel)
  have w_1 := hts (.initialized "java/lang/IllegalStateException") (by decide +kernel)
  refine lv_aload_n hx hb dX4_unlock_0 rfl (lv_at hl 0 rfl) ?_
  refine lv_iload_n hx hb dX4_unlock_1 rfl (lv_at hl 1 rfl) ?_
  have hPc := hP.sub (ws' := [(x, .inr (5, [.ref a1, .ref a2, .ref a3, .ref a4])), (a1, wT tC 5 fs)]) [0, 1] rfl
  have hDc := hD.sub (ws' := [(x, .inr (5, [.ref a1, .ref a2, .ref a3, .ref a4])), (a1, wT tC 5 fs)]) [0, 1] (by decide) rfl
  have hFc := va_free (wc := [(x, .inr (5, [.ref a1, .ref a2, .ref a3, .ref a4])), (a1, wT tC 5 fs)]) hD hS hA [0, 1] rfl
  refine vx_callr (vx_runV (As := [.int p0]) (rest := []) ⟨hx, hb, hml, hown, hts⟩ (c_X4_stationAt l hlt D tC dz s.heap.size x a1 a2 a3 a4 fs p0 q hq) (cwV 1 hts gX4_unlock_X4_stationAt rfl rfl rfl (by decide +kernel) ⟨Nat.le_of_ble_eq_true rfl, Nat.le_of_ble_eq_true rfl⟩) ⟨pB_blind, va_recv hK hPc (ci := 5) (q0 := 0) rfl rfl, pB_at hPc hDc hK hN hE hS hFc⟩ rfl rfl hl.1 rfl (lv_room (Nat.le_of_ble_eq_true rfl)) dX4_unlock_2 ⟨Nat.le_of_ble_eq_true rfl, Nat.le_of_ble_eq_true rfl⟩) hS (fun q _ h => hFc q h) hFc (fun q _ h => hFc q h) (fun E ce q9 u t H1 locs ht hvm hpx hPE hz1 hk1 hS hce hcv hcl => ?_) (fun u r1 t H1 locs ht hvm hw hB hz1 hk1 hS => ?_)
  · skip
    exact vx_out (fun x h => (hnx x h).elim) hlocks hce hcv hcl (fun t9 h9 _ => ⟨(), trivial, Or.inl hPE, hS.F h9⟩) hS.2.2 (Nat.le_of_ble_eq_true rfl) (Nat.le_of_ble_eq_true rfl)
  · skip
    obtain ⟨k_1, k_2, hP1, _, hD1⟩ := hB
    have hw_3 := hw
    rw [ht] at hP1
    obtain ⟨hP, hD⟩ := va_join (wr := [(q, .inr (4, [.int ow, .int 1, .ref f, .int 0, .int (-1), .null, .int (-1), .null]))]) (w1 := [(x, .inr (5, [.ref a1, .ref a2, .ref a3, .ref a4])), (a1, wT tC 5 fs)]) hP hD [0, 1] [2] rfl rfl (by decide) (by decide) hk1 hFc hP1 hD1
    generalize H1 = H at hP hS ⊢
    have hP : va_P D vwCl [(q, .inr (4, [.int ow, .int 1, .ref f, .int 0, .int (-1), .null, .int (-1), .null])), (x, .inr (5, [.ref a1, .ref a2, .ref a3, .ref a4])), (a1, wT tC 5 fs)] H := hP
    have hD : va_D A [(q, .inr (4, [.int ow, .int 1, .ref f, .int 0, .int (-1), .null, .int (-1), .null])), (x, .inr (5, [.ref a1, .ref a2, .ref a3, .ref a4])), (a1, wT tC 5 fs)] := hD
    refine W.widen (k := 1) (n := 6) (by omega) (by omega) ?_
    rw [k_1]
    refine lv_astore_n (lv' := [(2, .ref q), (0, .ref x), (1, .int p0)]) hx hb dX4_unlock_5 rfl hl (by decide) rfl (fun ls hl => ?_)
    refine lv_aload_n hx hb dX4_unlock_6 rfl (lv_at hl 0 rfl) ?_
    refine va_getN (host := "NoticeStations") (D := D) (ci := 4) (v := .int (-1)) (C := RX3) (T := TX3) (N := 8) hx hb hts in_X4_unlock_X3 hown hK hP 0 rfl rfl 6 (by decide) (va_Nw.use rfl (hN.1 (.fieldLinkNest "NoticeStations" 155 "NoticeStations$Station" "lock" "I" "NoticeStations") (by decide +kernel))) (fun _ h9 => h9) rfl dX4_unlock_7 ?_
    refine lv_iconst (v := (-1)) hx hb dX4_unlock_10 (by decide) ?_
    refine lv_icmp_eq (tgt := 21) hx hb dX4_unlock_11 (by decide) (fun _ => ?_) (fun hc => absurd (by decide) hc)
    obtain ⟨sa, hstr⟩ := hN.2.1 (158, "no lock, or one of an open write of its own") (by decide +kernel)
    exact vx_throwS hx hb hlt hown (by decide +kernel) (by decide +kernel) w_0 w_1 hstr (vx_hat (fun w hw => hts w (th_X4_unlock_ISE w hw)) at_ISE_rest (at_ISE_hat hN)) at_ISE_ok hE.1 hE.2.1 hS (by rw [hml]; exact hl.1) dX4_unlock_21 dX4_unlock_24 dX4_unlock_25 dX4_unlock_27 dX4_unlock_30 (fun x h => (hnx x h).elim) (by decide) (by decide) (Nat.le_of_ble_eq_true rfl) (Nat.le_of_ble_eq_true rfl) hlocks (fun t _ h1 h2 => ⟨(), trivial, Or.inr ⟨rfl, k_2⟩, xF hS h1 h2⟩) hS.2.2 (Nat.le_of_ble_eq_true rfl) (Nat.le_of_ble_eq_true rfl)
set_option maxHeartbeats 4000000 in
set_option maxRecDepth 100000 in
theorem c_X4_stop (l : Launch) (hlt : l.stackTraces = false) (D : va_G) (tC : Nat → ClassId) (dz sz : Nat) (x : Nat) (a1 : Nat) (a2 : Nat) (a3 : Nat) (a4 : Nat) (fs : Nat → Option Nat) (p0 : Int32) (f : Nat) (q : Nat) (ow : Int32) (hq : ∀ k : Nat, k < 5 → p0 = nI k → fs k = some q) : vx_Met l yX4_stop wsX4_stop ({ frames := 7, cells := 1, slots := 6, locals := 103 }) (va_Pc [.ref x, .int p0] (pB D tC dz [(x, .inr (5, [.ref a1, .ref a2, .ref a3, .ref a4])), (a1, wT tC 5 fs), (q, .inr (4, [.int ow, .int 1, .ref f, .int 0, .int (-1), .null, .int (-1), .null]))] sz)) (va_Qi (fun (r : Int32) (_ : Unit) => r = 1 ∧ ¬ (p0 < 0 ∨ 5 ≤ p0)) (fun (_ : Unit) t => pA D tC (va_A [(x, .inr (5, [.ref a1, .ref a2, .ref a3, .ref a4])), (a1, wT tC 5 fs), (q, .inr (4, [.int ow, .int 1, .ref f, .int 0, .int (-1), .null, .int (-1), .null]))] sz) [] t) (va_A [(x, .inr (5, [.ref a1, .ref a2, .ref a3, .ref a4])), (a1, wT tC 5 fs), (q, .inr (4, [.int ow, .int 1, .ref f, .int 0, .int (-1), .null, .int (-1), .null]))] sz)) (xX (fun E => E = "java/lang/IndexOutOfBoundsException" ∧ (p0 < 0 ∨ 5 ≤ p0)) (va_A [(x, .inr (5, [.ref a1, .ref a2, .ref a3, .ref a4])), (a1, wT tC 5 fs), (q, .inr (4, [.int ow, .int 1, .ref f, .int 0, .int (-1), .null, .int (-1), .null]))] sz)) 1 6 (va_A [(x, .inr (5, [.ref a1, .ref a2, .ref a3, .ref a4])), (a1, wT tC 5 fs), (q, .inr (4, [.int ow, .int 1, .ref f, .int 0, .int (-1), .null, .int (-1), .null]))] sz) := by
  refine vx_ofW (cc := cX4_stop) (maxL := 4) (ret := (some .boolean)) (by decide) rfl ?_
  intro p e s m args below meth c s₁ B hml hnx hv
  obtain ⟨rfl, hsz, hP, hK, hD0, hN, hE⟩ := hv
  have hx := B.exec
  have hb := B.bytes
  have hr := B.returns
  have hts := atoms_spec (ws := wsX4_stop) B.pre
  have hown : s.vm.findClass RX4 = some m.cls := findClass_of_methodNamed B.named
  have hlocks := B.notSynchronized
  subst hsz
  have hD := hD0.self (sz := s.heap.size)
  generalize hAe : va_A [(x, .inr (5, [.ref a1, .ref a2, .ref a3, .ref a4])), (a1, wT tC 5 fs), (q, .inr (4, [.int ow, .int 1, .ref f, .int 0, .int (-1), .null, .int (-1), .null]))] s.heap.size = A at hD hE ⊢
  have hA : ∀ q : Nat, s.heap.size ≤ q → A q := fun q h => by rw [← hAe]; exact Or.inr h
  have hS : va_S A s.heap s.heap [] := va_S.rf
  have hP : va_P D vwCl [(x, .inr (5, [.ref a1, .ref a2, .ref a3, .ref a4])), (a1, wT tC 5 fs), (q, .inr (4, [.int ow, .int 1, .ref f, .int 0, .int (-1), .null, .int (-1), .null]))] s.heap := hP
  have hl := lv_entry ([.ref x, .int p0]) (n := 4) (Nat.le_of_ble_eq_true rfl)
  rw [lg_entry_eq]
  generalize (lg_sl ([.ref x, .int p0]) ++ List.replicate (4 - (lg_sl ([.ref x, .int p0])).length) Slot.unset).toArray = ls at hl ⊢
  have hl : lv_has ls 4 [(0, .ref x), (1, .int p0)] := hl
  have w_0 := hts (.initialized RX3) (by decide +kernel)
  have w_1 := hts (.instanceMethod yX3_forgetWrite) (by decide +kernel)
  have w_2 := hts (.selects RX3 yX3_forgetWrite yX3_forgetWrite) (by decide +kernel)
  refine lv_aload_n hx hb dX4_stop_0 rfl (lv_at hl 0 rfl) ?_
  refine lv_iload_n hx hb dX4_stop_1 rfl (lv_at hl 1 rfl) ?_
  have hPc := hP.sub (ws' := [(x, .inr (5, [.ref a1, .ref a2, .ref a3, .ref a4])), (a1, wT tC 5 fs)]) [0, 1] rfl
  have hDc := hD.sub (ws' := [(x, .inr (5, [.ref a1, .ref a2, .ref a3, .ref a4])), (a1, wT tC 5 fs)]) [0, 1] (by decide) rfl
  have hFc := va_free (wc := [(x, .inr (5, [.ref a1, .ref a2, .ref a3, .ref a4])), (a1, wT tC 5 fs)]) hD hS hA [0, 1] rfl
  refine vx_callr (vx_runV (As := [.int p0]) (rest := []) ⟨hx, hb, hml, hown, hts⟩ (c_X4_stationAt l hlt D tC dz s.heap.size x a1 a2 a3 a4 fs p0 q hq) (cwV 1 hts gX4_stop_X4_stationAt rfl rfl rfl (by decide +kernel) ⟨Nat.le_of_ble_eq_true rfl, Nat.le_of_ble_eq_true rfl⟩) ⟨pB_blind, va_recv hK hPc (ci := 5) (q0 := 0) rfl rfl, pB_at hPc hDc hK hN hE hS hFc⟩ rfl rfl hl.1 rfl (lv_room (Nat.le_of_ble_eq_true rfl)) dX4_stop_2 ⟨Nat.le_of_ble_eq_true rfl, Nat.le_of_ble_eq_true rfl⟩) hS (fun q _ h => hFc q h) hFc (fun q _ h => hFc q h) (fun E ce q9 u t H1 locs ht hvm hpx hPE hz1 hk1 hS hce hcv hcl => ?_) (fun u r1 t H1 locs ht hvm hw hB hz1 hk1 hS => ?_)
  · skip
    exact vx_out (fun x h => (hnx x h).elim) hlocks hce hcv hcl (fun t9 h9 _ => ⟨(), trivial, hPE, hS.F h9⟩) hS.2.2 (Nat.le_of_ble_eq_true rfl) (Nat.le_of_ble_eq_true rfl)
  · skip
    obtain ⟨k_1, k_2, hP1, _, hD1⟩ := hB
    have hw_3 := hw
    rw [ht] at hP1
    obtain ⟨hP, hD⟩ := va_join (wr := [(q, .inr (4, [.int ow, .int 1, .ref f, .int 0, .int (-1), .null, .int (-1), .null]))]) (w1 := [(x, .inr (5, [.ref a1, .ref a2, .ref a3, .ref a4])), (a1, wT tC 5 fs)]) hP hD [0, 1] [2] rfl rfl (by decide) (by decide) hk1 hFc hP1 hD1
    generalize H1 = H at hP hS ⊢
    have hP : va_P D vwCl [(q, .inr (4, [.int ow, .int 1, .ref f, .int 0, .int (-1), .null, .int (-1), .null])), (x, .inr (5, [.ref a1, .ref a2, .ref a3, .ref a4])), (a1, wT tC 5 fs)] H := hP
    have hD : va_D A [(q, .inr (4, [.int ow, .int 1, .ref f, .int 0, .int (-1), .null, .int (-1), .null])), (x, .inr (5, [.ref a1, .ref a2, .ref a3, .ref a4])), (a1, wT tC 5 fs)] := hD
    refine W.widen (k := 1) (n := 6) (by omega) (by omega) ?_
    rw [k_1]
    refine lv_astore_n (lv' := [(2, .ref q), (0, .ref x), (1, .int p0)]) hx hb dX4_stop_5 rfl hl (by decide) rfl (fun ls hl => ?_)
    refine lv_aload_n hx hb dX4_stop_6 rfl (lv_at hl 0 rfl) ?_
    refine va_getN (host := "NoticeStations") (D := D) (ci := 4) (v := .int 1) (C := RX3) (T := TX3) (N := 8) hx hb hts in_X4_stop_X3 hown hK hP 0 rfl rfl 1 (by decide) (va_Nw.use rfl (hN.1 (.fieldLinkNest "NoticeStations" 160 "NoticeStations$Station" "up" "Z" "NoticeStations") (by decide +kernel))) (fun _ h9 => h9) rfl dX4_stop_7 ?_
    refine lv_istore_n (lv' := [(3, .int 1), (2, .ref q), (0, .ref x), (1, .int p0)]) hx hb dX4_stop_10 rfl hl (by decide) rfl (fun ls hl => ?_)
    refine lv_aload_n hx hb dX4_stop_11 rfl (lv_at hl 1 rfl) ?_
    refine lv_iconst (v := 0) hx hb dX4_stop_12 (by decide) ?_
    refine va_putN (host := "NoticeStations") (D := D) (ci := 4) (v := .int 0) (ty := .boolean) (C := RX3) (T := TX3) (N := 8) hx hb hts in_X4_stop_X3 tyX3 tyX3_ok nmX3 hown hK hP hD hS 0 rfl rfl 1 (by decide) (va_Nw.use rfl (hN.1 (.fieldLinkNest "NoticeStations" 160 "NoticeStations$Station" "up" "Z" "NoticeStations") (by decide +kernel))) (fun _ h9 => h9) rfl (by decide +kernel) (by first | rfl | decide) rfl (Nat.le_of_ble_eq_true rfl) dX4_stop_13 (fun H locs hP hD hS => ?_)
    have hP : va_P D vwCl [(q, .inr (4, [.int ow, .int 0, .ref f, .int 0, .int (-1), .null, .int (-1), .null])), (x, .inr (5, [.ref a1, .ref a2, .ref a3, .ref a4])), (a1, wT tC 5 fs)] H := hP
    have hD : va_D A [(q, .inr (4, [.int ow, .int 0, .ref f, .int 0, .int (-1), .null, .int (-1), .null])), (x, .inr (5, [.ref a1, .ref a2, .ref a3, .ref a4])), (a1, wT tC 5 fs)] := hD
    refine lv_aload_n hx hb dX4_stop_16 rfl (lv_at hl 1 rfl) ?_
    have hPc := hP.sub (ws' := [(q, .inr (4, [.int ow, .int 0, .ref f, .int 0, .int (-1), .null, .int (-1), .null]))]) [0] rfl
    have hDc := hD.sub (ws' := [(q, .inr (4, [.int ow, .int 0, .ref f, .int 0, .int (-1), .null, .int (-1), .null]))]) [0] (by decide) rfl
    have hFc := va_free (wc := [(q, .inr (4, [.int ow, .int 0, .ref f, .int 0, .int (-1), .null, .int (-1), .null]))]) hD hS hA [0] rfl
    refine va_callv (va_runVN (As := []) (rest := []) ⟨hx, hb, hml, hown, hts⟩ (c_X3_forgetWrite l hlt D tC dz H.size q ow 0 f 0 (-1) (-1) ) ⟨(va_cnB (host := "NoticeStations") 0 hts gX4_stop_X3_forgetWrite_n142 rfl rfl rfl (hN.1 (.methodLinkNest "NoticeStations" 142 ⟨"NoticeStations$Station", "forgetWrite", "()V"⟩ "NoticeStations") (by decide +kernel)) w_0 (by decide +kernel) ⟨Nat.le_of_ble_eq_true rfl, Nat.le_of_ble_eq_true rfl⟩), w_1, w_2⟩ ⟨pB_blind, va_recv hK hPc (ci := 4) (q0 := 0) rfl rfl, pB_at hPc hDc hK hN hE hS hFc⟩ rfl rfl hl.1 rfl (lv_room (Nat.le_of_ble_eq_true rfl)) dX4_stop_17 ⟨Nat.le_of_ble_eq_true rfl, Nat.le_of_ble_eq_true rfl⟩) hS (fun q _ h => hFc q h) hFc (fun u t H1 locs ht hvm hw hB hz1 hk1 hS => ?_)
    obtain ⟨hP1, _, hD1⟩ := hB
    have hw_5 := hw
    rw [ht] at hP1
    obtain ⟨hP, hD⟩ := va_join (wr := [(x, .inr (5, [.ref a1, .ref a2, .ref a3, .ref a4])), (a1, wT tC 5 fs)]) (w1 := [(q, .inr (4, [.int ow, .int 0, .ref f, .int 0, .int (-1), .null, .int (-1), .null]))]) hP hD [0] [1, 2] rfl rfl (by decide) (by decide) hk1 hFc hP1 hD1
    generalize H1 = H at hP hS ⊢
    have hP : va_P D vwCl [(x, .inr (5, [.ref a1, .ref a2, .ref a3, .ref a4])), (a1, wT tC 5 fs), (q, .inr (4, [.int ow, .int 0, .ref f, .int 0, .int (-1), .null, .int (-1), .null]))] H := hP
    have hD : va_D A [(x, .inr (5, [.ref a1, .ref a2, .ref a3, .ref a4])), (a1, wT tC 5 fs), (q, .inr (4, [.int ow, .int 0, .ref f, .int 0, .int (-1), .null, .int (-1), .null]))] := hD
    refine lv_iload_n hx hb dX4_stop_20 rfl (lv_at hl 0 rfl) ?_
    have hP9 := hP.sub (ws' := []) [] rfl
    have hD9 := hD.sub (ws' := []) [] (by decide) rfl
    refine W.widen (k := 1) (n := 6) (by omega) (by omega) ?_
    exact vx_ret (W.zret (v := 1) hx hb hr (by decide) (fun t ht hW => ⟨⟨1, (), rfl, ⟨rfl, k_2⟩, (by rw [ht]; exact hP9), va_K.moved hW.alike hK, hD9⟩, hS.F ht⟩) hS.2.2 dX4_stop_21 hlocks)
set_option maxHeartbeats 4000000 in
set_option maxRecDepth 100000 in
theorem c_X4_start (l : Launch) (hlt : l.stackTraces = false) (D : va_G) (tC : Nat → ClassId) (dz sz : Nat) (x : Nat) (a1 : Nat) (a2 : Nat) (a3 : Nat) (a4 : Nat) (fs : Nat → Option Nat) (p0 : Int32) (f : Nat) (q : Nat) (ow : Int32) (hq : ∀ k : Nat, k < 5 → p0 = nI k → fs k = some q) : vx_Met l yX4_start wsX4_start ({ frames := 7, cells := 1, slots := 6, locals := 103 }) (va_Pc [.ref x, .int p0] (pB D tC dz [(x, .inr (5, [.ref a1, .ref a2, .ref a3, .ref a4])), (a1, wT tC 5 fs), (q, .inr (4, [.int ow, .int 1, .ref f, .int 0, .int (-1), .null, .int (-1), .null]))] sz)) (va_Qi (fun (r : Int32) (_ : Unit) => r = 0 ∧ ¬ (p0 < 0 ∨ 5 ≤ p0)) (fun (_ : Unit) t => pA D tC (va_A [(x, .inr (5, [.ref a1, .ref a2, .ref a3, .ref a4])), (a1, wT tC 5 fs), (q, .inr (4, [.int ow, .int 1, .ref f, .int 0, .int (-1), .null, .int (-1), .null]))] sz) [] t) (va_A [(x, .inr (5, [.ref a1, .ref a2, .ref a3, .ref a4])), (a1, wT tC 5 fs), (q, .inr (4, [.int ow, .int 1, .ref f, .int 0, .int (-1), .null, .int (-1), .null]))] sz)) (xX (fun E => E = "java/lang/IndexOutOfBoundsException" ∧ (p0 < 0 ∨ 5 ≤ p0)) (va_A [(x, .inr (5, [.ref a1, .ref a2, .ref a3, .ref a4])), (a1, wT tC 5 fs), (q, .inr (4, [.int ow, .int 1, .ref f, .int 0, .int (-1), .null, .int (-1), .null]))] sz)) 1 6 (va_A [(x, .inr (5, [.ref a1, .ref a2, .ref a3, .ref a4])), (a1, wT tC 5 fs), (q, .inr (4, [.int ow, .int 1, .ref f, .int 0, .int (-1), .null, .int (-1), .null]))] sz) := by
  refine vx_ofW (cc := cX4_start) (maxL := 4) (ret := (some .boolean)) (by decide) rfl ?_
  intro p e s m args below meth c s₁ B hml hnx hv
  obtain ⟨rfl, hsz, hP, hK, hD0, hN, hE⟩ := hv
  have hx := B.exec
  have hb := B.bytes
  have hr := B.returns
  have hts := atoms_spec (ws := wsX4_start) B.pre
  have hown : s.vm.findClass RX4 = some m.cls := findClass_of_methodNamed B.named
  have hlocks := B.notSynchronized
  subst hsz
  have hD := hD0.self (sz := s.heap.size)
  generalize hAe : va_A [(x, .inr (5, [.ref a1, .ref a2, .ref a3, .ref a4])), (a1, wT tC 5 fs), (q, .inr (4, [.int ow, .int 1, .ref f, .int 0, .int (-1), .null, .int (-1), .null]))] s.heap.size = A at hD hE ⊢
  have hA : ∀ q : Nat, s.heap.size ≤ q → A q := fun q h => by rw [← hAe]; exact Or.inr h
  have hS : va_S A s.heap s.heap [] := va_S.rf
  have hP : va_P D vwCl [(x, .inr (5, [.ref a1, .ref a2, .ref a3, .ref a4])), (a1, wT tC 5 fs), (q, .inr (4, [.int ow, .int 1, .ref f, .int 0, .int (-1), .null, .int (-1), .null]))] s.heap := hP
  have hl := lv_entry ([.ref x, .int p0]) (n := 4) (Nat.le_of_ble_eq_true rfl)
  rw [lg_entry_eq]
  generalize (lg_sl ([.ref x, .int p0]) ++ List.replicate (4 - (lg_sl ([.ref x, .int p0])).length) Slot.unset).toArray = ls at hl ⊢
  have hl : lv_has ls 4 [(0, .ref x), (1, .int p0)] := hl
  have w_0 := hts (.initialized RX3) (by decide +kernel)
  have w_1 := hts (.instanceMethod yX3_forgetWrite) (by decide +kernel)
  have w_2 := hts (.selects RX3 yX3_forgetWrite yX3_forgetWrite) (by decide +kernel)
  refine lv_aload_n hx hb dX4_start_0 rfl (lv_at hl 0 rfl) ?_
  refine lv_iload_n hx hb dX4_start_1 rfl (lv_at hl 1 rfl) ?_
  have hPc := hP.sub (ws' := [(x, .inr (5, [.ref a1, .ref a2, .ref a3, .ref a4])), (a1, wT tC 5 fs)]) [0, 1] rfl
  have hDc := hD.sub (ws' := [(x, .inr (5, [.ref a1, .ref a2, .ref a3, .ref a4])), (a1, wT tC 5 fs)]) [0, 1] (by decide) rfl
  have hFc := va_free (wc := [(x, .inr (5, [.ref a1, .ref a2, .ref a3, .ref a4])), (a1, wT tC 5 fs)]) hD hS hA [0, 1] rfl
  refine vx_callr (vx_runV (As := [.int p0]) (rest := []) ⟨hx, hb, hml, hown, hts⟩ (c_X4_stationAt l hlt D tC dz s.heap.size x a1 a2 a3 a4 fs p0 q hq) (cwV 1 hts gX4_start_X4_stationAt rfl rfl rfl (by decide +kernel) ⟨Nat.le_of_ble_eq_true rfl, Nat.le_of_ble_eq_true rfl⟩) ⟨pB_blind, va_recv hK hPc (ci := 5) (q0 := 0) rfl rfl, pB_at hPc hDc hK hN hE hS hFc⟩ rfl rfl hl.1 rfl (lv_room (Nat.le_of_ble_eq_true rfl)) dX4_start_2 ⟨Nat.le_of_ble_eq_true rfl, Nat.le_of_ble_eq_true rfl⟩) hS (fun q _ h => hFc q h) hFc (fun q _ h => hFc q h) (fun E ce q9 u t H1 locs ht hvm hpx hPE hz1 hk1 hS hce hcv hcl => ?_) (fun u r1 t H1 locs ht hvm hw hB hz1 hk1 hS => ?_)
  · skip
    exact vx_out (fun x h => (hnx x h).elim) hlocks hce hcv hcl (fun t9 h9 _ => ⟨(), trivial, hPE, hS.F h9⟩) hS.2.2 (Nat.le_of_ble_eq_true rfl) (Nat.le_of_ble_eq_true rfl)
  · skip
    obtain ⟨k_1, k_2, hP1, _, hD1⟩ := hB
    have hw_3 := hw
    rw [ht] at hP1
    obtain ⟨hP, hD⟩ := va_join (wr := [(q, .inr (4, [.int ow, .int 1, .ref f, .int 0, .int (-1), .null, .int (-1), .null]))]) (w1 := [(x, .inr (5, [.ref a1, .ref a2, .ref a3, .ref a4])), (a1, wT tC 5 fs)]) hP hD [0, 1] [2] rfl rfl (by decide) (by decide) hk1 hFc hP1 hD1
    generalize H1 = H at hP hS ⊢
    have hP : va_P D vwCl [(q, .inr (4, [.int ow, .int 1, .ref f, .int 0, .int (-1), .null, .int (-1), .null])), (x, .inr (5, [.ref a1, .ref a2, .ref a3, .ref a4])), (a1, wT tC 5 fs)] H := hP
    have hD : va_D A [(q, .inr (4, [.int ow, .int 1, .ref f, .int 0, .int (-1), .null, .int (-1), .null])), (x, .inr (5, [.ref a1, .ref a2, .ref a3, .ref a4])), (a1, wT tC 5 fs)] := hD
    refine W.widen (k := 1) (n := 6) (by omega) (by omega) ?_
    rw [k_1]
    refine lv_astore_n (lv' := [(2, .ref q), (0, .ref x), (1, .int p0)]) hx hb dX4_start_5 rfl hl (by decide) rfl (fun ls hl => ?_)
    refine lv_aload_n hx hb dX4_start_6 rfl (lv_at hl 0 rfl) ?_
    refine va_getN (host := "NoticeStations") (D := D) (ci := 4) (v := .int 1) (C := RX3) (T := TX3) (N := 8) hx hb hts in_X4_start_X3 hown hK hP 0 rfl rfl 1 (by decide) (va_Nw.use rfl (hN.1 (.fieldLinkNest "NoticeStations" 160 "NoticeStations$Station" "up" "Z" "NoticeStations") (by decide +kernel))) (fun _ h9 => h9) rfl dX4_start_7 ?_
    refine lv_if_ne (tgt := 17) hx hb dX4_start_10 (by decide) (fun _ => ?_) (fun hc => absurd hc (by decide))
    refine lv_iconst (v := 0) hx hb dX4_start_17 (by decide) ?_
    refine lv_istore_n (lv' := [(3, .int 0), (2, .ref q), (0, .ref x), (1, .int p0)]) hx hb dX4_start_18 rfl hl (by decide) rfl (fun ls hl => ?_)
    refine lv_aload_n hx hb dX4_start_19 rfl (lv_at hl 1 rfl) ?_
    refine lv_iconst (v := 1) hx hb dX4_start_20 (by decide) ?_
    refine va_putN (host := "NoticeStations") (D := D) (ci := 4) (v := .int 1) (ty := .boolean) (C := RX3) (T := TX3) (N := 8) hx hb hts in_X4_start_X3 tyX3 tyX3_ok nmX3 hown hK hP hD hS 0 rfl rfl 1 (by decide) (va_Nw.use rfl (hN.1 (.fieldLinkNest "NoticeStations" 160 "NoticeStations$Station" "up" "Z" "NoticeStations") (by decide +kernel))) (fun _ h9 => h9) rfl (by decide +kernel) (by first | rfl | decide) rfl (Nat.le_of_ble_eq_true rfl) dX4_start_21 (fun H locs hP hD hS => ?_)
    have hP : va_P D vwCl [(q, .inr (4, [.int ow, .int 1, .ref f, .int 0, .int (-1), .null, .int (-1), .null])), (x, .inr (5, [.ref a1, .ref a2, .ref a3, .ref a4])), (a1, wT tC 5 fs)] H := hP
    have hD : va_D A [(q, .inr (4, [.int ow, .int 1, .ref f, .int 0, .int (-1), .null, .int (-1), .null])), (x, .inr (5, [.ref a1, .ref a2, .ref a3, .ref a4])), (a1, wT tC 5 fs)] := hD
    refine lv_aload_n hx hb dX4_start_24 rfl (lv_at hl 1 rfl) ?_
    have hPc := hP.sub (ws' := [(q, .inr (4, [.int ow, .int 1, .ref f, .int 0, .int (-1), .null, .int (-1), .null]))]) [0] rfl
    have hDc := hD.sub (ws' := [(q, .inr (4, [.int ow, .int 1, .ref f, .int 0, .int (-1), .null, .int (-1), .null]))]) [0] (by decide) rfl
    have hFc := va_free (wc := [(q, .inr (4, [.int ow, .int 1, .ref f, .int 0, .int (-1), .null, .int (-1), .null]))]) hD hS hA [0] rfl
    refine va_callv (va_runVN (As := []) (rest := []) ⟨hx, hb, hml, hown, hts⟩ (c_X3_forgetWrite l hlt D tC dz H.size q ow 1 f 0 (-1) (-1) ) ⟨(va_cnB (host := "NoticeStations") 0 hts gX4_start_X3_forgetWrite_n142 rfl rfl rfl (hN.1 (.methodLinkNest "NoticeStations" 142 ⟨"NoticeStations$Station", "forgetWrite", "()V"⟩ "NoticeStations") (by decide +kernel)) w_0 (by decide +kernel) ⟨Nat.le_of_ble_eq_true rfl, Nat.le_of_ble_eq_true rfl⟩), w_1, w_2⟩ ⟨pB_blind, va_recv hK hPc (ci := 4) (q0 := 0) rfl rfl, pB_at hPc hDc hK hN hE hS hFc⟩ rfl rfl hl.1 rfl (lv_room (Nat.le_of_ble_eq_true rfl)) dX4_start_25 ⟨Nat.le_of_ble_eq_true rfl, Nat.le_of_ble_eq_true rfl⟩) hS (fun q _ h => hFc q h) hFc (fun u t H1 locs ht hvm hw hB hz1 hk1 hS => ?_)
    obtain ⟨hP1, _, hD1⟩ := hB
    have hw_5 := hw
    rw [ht] at hP1
    obtain ⟨hP, hD⟩ := va_join (wr := [(x, .inr (5, [.ref a1, .ref a2, .ref a3, .ref a4])), (a1, wT tC 5 fs)]) (w1 := [(q, .inr (4, [.int ow, .int 1, .ref f, .int 0, .int (-1), .null, .int (-1), .null]))]) hP hD [0] [1, 2] rfl rfl (by decide) (by decide) hk1 hFc hP1 hD1
    generalize H1 = H at hP hS ⊢
    have hP : va_P D vwCl [(x, .inr (5, [.ref a1, .ref a2, .ref a3, .ref a4])), (a1, wT tC 5 fs), (q, .inr (4, [.int ow, .int 1, .ref f, .int 0, .int (-1), .null, .int (-1), .null]))] H := hP
    have hD : va_D A [(x, .inr (5, [.ref a1, .ref a2, .ref a3, .ref a4])), (a1, wT tC 5 fs), (q, .inr (4, [.int ow, .int 1, .ref f, .int 0, .int (-1), .null, .int (-1), .null]))] := hD
    refine lv_iload_n hx hb dX4_start_28 rfl (lv_at hl 0 rfl) ?_
    have hP9 := hP.sub (ws' := []) [] rfl
    have hD9 := hD.sub (ws' := []) [] (by decide) rfl
    refine W.widen (k := 1) (n := 6) (by omega) (by omega) ?_
    exact vx_ret (W.zret (v := 0) hx hb hr (by decide) (fun t ht hW => ⟨⟨0, (), rfl, ⟨rfl, k_2⟩, (by rw [ht]; exact hP9), va_K.moved hW.alike hK, hD9⟩, hS.F ht⟩) hS.2.2 dX4_start_29 hlocks)
set_option maxHeartbeats 4000000 in
set_option maxRecDepth 100000 in
theorem c_X4_ask (l : Launch) (hlt : l.stackTraces = false) (D : va_G) (tC : Nat → ClassId) (dz sz : Nat) (x : Nat) (a1 : Nat) (a2 : Nat) (a3 : Nat) (a4 : Nat) (fs : Nat → Option Nat) (p0 : Int32) (p1 : Int32) (f : Nat) (q : Nat) (ow : Int32) (hq : ∀ k : Nat, k < 5 → p0 = nI k → fs k = some q) : vx_Met l yX4_ask wsX4_ask ({ frames := 7, cells := 2, slots := 12, locals := 104 }) (va_Pc [.ref x, .int p0, .int p1] (pB D tC dz [(x, .inr (5, [.ref a1, .ref a2, .ref a3, .ref a4])), (a1, wT tC 5 fs), (q, .inr (4, [.int ow, .int 1, .ref f, .int 0, .int (-1), .null, .int (-1), .null]))] sz)) (va_Qv (fun (_ : Unit) => False) (fun (_ : Unit) t => pA D tC (va_A [(x, .inr (5, [.ref a1, .ref a2, .ref a3, .ref a4])), (a1, wT tC 5 fs), (q, .inr (4, [.int ow, .int 1, .ref f, .int 0, .int (-1), .null, .int (-1), .null]))] sz) [(x, .inr (5, [.ref a1, .ref a2, .ref a3, .ref a4])), (a1, wT tC 5 fs), (q, .inr (4, [.int ow, .int 1, .ref f, .int 0, .int (-1), .null, .int (-1), .null]))] t) (va_A [(x, .inr (5, [.ref a1, .ref a2, .ref a3, .ref a4])), (a1, wT tC 5 fs), (q, .inr (4, [.int ow, .int 1, .ref f, .int 0, .int (-1), .null, .int (-1), .null]))] sz)) (xX (fun E => (E = "java/lang/IndexOutOfBoundsException" ∧ ((p0 < 0 ∨ 5 ≤ p0) ∨ (p1 < 0 ∨ 5 ≤ p1) ∨ p0 = p1)) ∨ (E = "java/lang/IllegalStateException" ∧ ¬ ((p0 < 0 ∨ 5 ≤ p0) ∨ (p1 < 0 ∨ 5 ≤ p1) ∨ p0 = p1))) (va_A [(x, .inr (5, [.ref a1, .ref a2, .ref a3, .ref a4])), (a1, wT tC 5 fs), (q, .inr (4, [.int ow, .int 1, .ref f, .int 0, .int (-1), .null, .int (-1), .null]))] sz)) 2 12 (va_A [(x, .inr (5, [.ref a1, .ref a2, .ref a3, .ref a4])), (a1, wT tC 5 fs), (q, .inr (4, [.int ow, .int 1, .ref f, .int 0, .int (-1), .null, .int (-1), .null]))] sz) := by
  refine vx_ofW (cc := cX4_ask) (maxL := 4) (ret := none) (by decide) rfl ?_
  intro p e s m args below meth c s₁ B hml hnx hv
  obtain ⟨rfl, hsz, hP, hK, hD0, hN, hE⟩ := hv
  have hx := B.exec
  have hb := B.bytes
  have hr := B.returns
  have hts := atoms_spec (ws := wsX4_ask) B.pre
  have hown : s.vm.findClass RX4 = some m.cls := findClass_of_methodNamed B.named
  have hlocks := B.notSynchronized
  subst hsz
  have hD := hD0.self (sz := s.heap.size)
  generalize hAe : va_A [(x, .inr (5, [.ref a1, .ref a2, .ref a3, .ref a4])), (a1, wT tC 5 fs), (q, .inr (4, [.int ow, .int 1, .ref f, .int 0, .int (-1), .null, .int (-1), .null]))] s.heap.size = A at hD hE ⊢
  have hA : ∀ q : Nat, s.heap.size ≤ q → A q := fun q h => by rw [← hAe]; exact Or.inr h
  have hS : va_S A s.heap s.heap [] := va_S.rf
  have hP : va_P D vwCl [(x, .inr (5, [.ref a1, .ref a2, .ref a3, .ref a4])), (a1, wT tC 5 fs), (q, .inr (4, [.int ow, .int 1, .ref f, .int 0, .int (-1), .null, .int (-1), .null]))] s.heap := hP
  have hl := lv_entry ([.ref x, .int p0, .int p1]) (n := 4) (Nat.le_of_ble_eq_true rfl)
  rw [lg_entry_eq]
  generalize (lg_sl ([.ref x, .int p0, .int p1]) ++ List.replicate (4 - (lg_sl ([.ref x, .int p0, .int p1])).length) Slot.unset).toArray = ls at hl ⊢
  have hl : lv_has ls 4 [(0, .ref x), (1, .int p0), (2, .int p1)] := hl
  have w_0 := hts (.fieldLink RX4 11 "NoticeStations" "stations" "[LNoticeStations$Station;") (by decide +kernel)
  have w_1 := hts (.initialized RX3) (by decide +kernel)
  have w_2 := hts (.instanceMethod yX3_isInDoubt) (by decide +kernel)
  have w_3 := hts (.selects RX3 yX3_isInDoubt yX3_isInDoubt) (by decide +kernel)
  have w_4 := hts (.classLink RX4 91 "java/lang/IllegalStateException") (by decide +kernel)
  have w_5 := hts (.initialized "java/lang/IllegalStateException") (by decide +kernel)
  refine lv_aload_n hx hb dX4_ask_0 rfl (lv_at hl 0 rfl) ?_
  refine lv_iload_n hx hb dX4_ask_1 rfl (lv_at hl 1 rfl) ?_
  refine lv_iload_n hx hb dX4_ask_2 rfl (lv_at hl 2 rfl) ?_
  have hPc := hP.sub (ws' := [(x, .inr (5, [.ref a1, .ref a2, .ref a3, .ref a4]))]) [0] rfl
  have hDc := hD.sub (ws' := [(x, .inr (5, [.ref a1, .ref a2, .ref a3, .ref a4]))]) [0] (by decide) rfl
  have hFc := va_free (wc := [(x, .inr (5, [.ref a1, .ref a2, .ref a3, .ref a4]))]) hD hS hA [0] rfl
  refine vx_callv (vx_runV (As := [.int p0, .int p1]) (rest := []) ⟨hx, hb, hml, hown, hts⟩ (c_X4_requireTwoStations l hlt D tC dz s.heap.size x a1 a2 a3 a4 p0 p1 ) (cwV 2 hts gX4_ask_X4_requireTwoStations rfl rfl rfl (by decide +kernel) ⟨Nat.le_of_ble_eq_true rfl, Nat.le_of_ble_eq_true rfl⟩) ⟨pB_blind, va_recv hK hPc (ci := 5) (q0 := 0) rfl rfl, pB_at hPc hDc hK hN hE hS hFc⟩ rfl rfl hl.1 rfl (lv_room (Nat.le_of_ble_eq_true rfl)) dX4_ask_3 ⟨Nat.le_of_ble_eq_true rfl, Nat.le_of_ble_eq_true rfl⟩) hS (fun q _ h => hFc q h) hFc (fun q _ h => hFc q h) (fun E ce q9 u t H1 locs ht hvm hpx hPE hz1 hk1 hS hce hcv hcl => ?_) (fun u t H1 locs ht hvm hw hB hz1 hk1 hS => ?_)
  · skip
    exact vx_out (fun x h => (hnx x h).elim) hlocks hce hcv hcl (fun t9 h9 _ => ⟨(), trivial, Or.inl hPE, hS.F h9⟩) hS.2.2 (Nat.le_of_ble_eq_true rfl) (Nat.le_of_ble_eq_true rfl)
  · skip
    obtain ⟨hP1, _, hD1⟩ := hB
    have hw_2 := hw
    rw [ht] at hP1
    obtain ⟨hP, hD⟩ := va_join (wr := [(a1, wT tC 5 fs), (q, .inr (4, [.int ow, .int 1, .ref f, .int 0, .int (-1), .null, .int (-1), .null]))]) (w1 := [(x, .inr (5, [.ref a1, .ref a2, .ref a3, .ref a4]))]) hP hD [0] [1, 2] rfl rfl (by decide) (by decide) hk1 hFc hP1 hD1
    generalize H1 = H at hP hS ⊢
    have hP : va_P D vwCl [(a1, wT tC 5 fs), (q, .inr (4, [.int ow, .int 1, .ref f, .int 0, .int (-1), .null, .int (-1), .null])), (x, .inr (5, [.ref a1, .ref a2, .ref a3, .ref a4]))] H := hP
    have hD : va_D A [(a1, wT tC 5 fs), (q, .inr (4, [.int ow, .int 1, .ref f, .int 0, .int (-1), .null, .int (-1), .null])), (x, .inr (5, [.ref a1, .ref a2, .ref a3, .ref a4]))] := hD
    refine W.widen (k := 1) (n := 6) (by omega) (by omega) ?_
    refine lv_aload_n hx hb dX4_ask_6 rfl (lv_at hl 0 rfl) ?_
    refine va_get (D := D) (ci := 5) (v := .ref a1) (C := RX4) (T := TX4) (N := 4) hx hb hts in_X4_ask_X4 hown hK hP 2 rfl rfl 0 (by decide) w_0 (fun _ h9 => h9) rfl dX4_ask_7 ?_
    refine lv_iload_n hx hb dX4_ask_10 rfl (lv_at hl 1 rfl) ?_
    obtain ⟨k, hk, ek⟩ := ix5 (fun h => hw_2 (Or.inl h))
    refine va_aldq hx hb hK hP 0 3 rfl rfl (by rw [ek]; exact in5 hk) dX4_ask_11 ?_
    rw [show fs p0.toNatClampNeg = some q from (by rw [ek, cl5 hk]; exact hq k hk ek)]
    refine W.eq (g2 := F0 m 12 ls [.ref q]) rfl ?_
    refine lv_astore_n (lv' := [(3, .ref q), (0, .ref x), (1, .int p0), (2, .int p1)]) hx hb dX4_ask_12 rfl hl (by decide) rfl (fun ls hl => ?_)
    refine lv_aload_n hx hb dX4_ask_13 rfl (lv_at hl 0 rfl) ?_
    refine va_getN (host := "NoticeStations") (D := D) (ci := 4) (v := .int 1) (C := RX3) (T := TX3) (N := 8) hx hb hts in_X4_ask_X3 hown hK hP 1 rfl rfl 1 (by decide) (va_Nw.use rfl (hN.1 (.fieldLinkNest "NoticeStations" 160 "NoticeStations$Station" "up" "Z" "NoticeStations") (by decide +kernel))) (fun _ h9 => h9) rfl dX4_ask_14 ?_
    refine lv_if_eq (tgt := 27) hx hb dX4_ask_17 (by decide) (fun hc => absurd hc (by decide)) (fun _ => ?_)
    refine lv_aload_n hx hb dX4_ask_20 rfl (lv_at hl 0 rfl) ?_
    have hPc := hP.sub (ws' := [(q, .inr (4, [.int ow, .int 1, .ref f, .int 0, .int (-1), .null, .int (-1), .null]))]) [1] rfl
    have hDc := hD.sub (ws' := [(q, .inr (4, [.int ow, .int 1, .ref f, .int 0, .int (-1), .null, .int (-1), .null]))]) [1] (by decide) rfl
    have hFc := va_free (wc := [(q, .inr (4, [.int ow, .int 1, .ref f, .int 0, .int (-1), .null, .int (-1), .null]))]) hD hS hA [1] rfl
    refine va_calli (va_runVN (As := []) (rest := []) ⟨hx, hb, hml, hown, hts⟩ (c_X3_isInDoubt l hlt D tC dz H.size f q ow ) ⟨(va_cnB (host := "NoticeStations") 0 hts gX4_ask_X3_isInDoubt_n164 rfl rfl rfl (hN.1 (.methodLinkNest "NoticeStations" 164 ⟨"NoticeStations$Station", "isInDoubt", "()Z"⟩ "NoticeStations") (by decide +kernel)) w_1 (by decide +kernel) ⟨Nat.le_of_ble_eq_true rfl, Nat.le_of_ble_eq_true rfl⟩), w_2, w_3⟩ ⟨pB_blind, va_recv hK hPc (ci := 4) (q0 := 0) rfl rfl, pB_at hPc hDc hK hN hE hS hFc⟩ rfl rfl hl.1 rfl (lv_room (Nat.le_of_ble_eq_true rfl)) dX4_ask_21 ⟨Nat.le_of_ble_eq_true rfl, Nat.le_of_ble_eq_true rfl⟩) hS (fun q _ h => hFc q h) hFc (fun r_3 u t H1 locs ht hvm hw hB hz1 hk1 hS => ?_)
    obtain ⟨hP1, _, hD1⟩ := hB
    have hw_4 := hw
    rw [ht] at hP1
    obtain ⟨hP, hD⟩ := va_join (wr := [(a1, wT tC 5 fs), (x, .inr (5, [.ref a1, .ref a2, .ref a3, .ref a4]))]) (w1 := [(q, .inr (4, [.int ow, .int 1, .ref f, .int 0, .int (-1), .null, .int (-1), .null]))]) hP hD [1] [0, 2] rfl rfl (by decide) (by decide) hk1 hFc hP1 hD1
    generalize H1 = H at hP hS ⊢
    have hP : va_P D vwCl [(a1, wT tC 5 fs), (x, .inr (5, [.ref a1, .ref a2, .ref a3, .ref a4])), (q, .inr (4, [.int ow, .int 1, .ref f, .int 0, .int (-1), .null, .int (-1), .null]))] H := hP
    have hD : va_D A [(a1, wT tC 5 fs), (x, .inr (5, [.ref a1, .ref a2, .ref a3, .ref a4])), (q, .inr (4, [.int ow, .int 1, .ref f, .int 0, .int (-1), .null, .int (-1), .null]))] := hD
    subst hw_4
    refine lv_if_ne (tgt := 37) hx hb dX4_ask_24 (by decide) (fun hc => absurd (by decide) hc) (fun _ => ?_)
    obtain ⟨sa, hstr⟩ := hN.2.1 (167, "stopped, or not in doubt") (by decide +kernel)
    exact vx_throwS hx hb hlt hown (by decide +kernel) (by decide +kernel) w_4 w_5 hstr (vx_hat (fun w hw => hts w (th_X4_ask_ISE w hw)) at_ISE_rest (at_ISE_hat hN)) at_ISE_ok hE.1 hE.2.1 hS (by rw [hml]; exact hl.1) dX4_ask_27 dX4_ask_30 dX4_ask_31 dX4_ask_33 dX4_ask_36 (fun x h => (hnx x h).elim) (by decide) (by decide) (Nat.le_of_ble_eq_true rfl) (Nat.le_of_ble_eq_true rfl) hlocks (fun t _ h1 h2 => ⟨(), trivial, Or.inr ⟨rfl, hw_2⟩, xF hS h1 h2⟩) hS.2.2 (Nat.le_of_ble_eq_true rfl) (Nat.le_of_ble_eq_true rfl)
set_option maxHeartbeats 4000000 in
set_option maxRecDepth 100000 in
theorem c_X2_hasNoticeAt (l : Launch) (hlt : l.stackTraces = false) (D : va_G) (tC : Nat → ClassId) (dz sz : Nat) (f : Nat) (e1 : Nat) (e2 : Nat) (z1 : Nat → Int32) (p1 : Int32)  : Met l yX2_hasNoticeAt wsX2_hasNoticeAt ({ frames := 1, cells := 0, slots := 0, locals := 21 }) (va_Pc [.ref f, .int p1] (pB D tC dz [(f, .inr (3, [.ref e1, .ref e2, .int 5, .int 0])), (e1, wI tC 0 z1)] sz)) (va_Qi (fun (r : Int32) (_ : Unit) => r = 0) (fun (_ : Unit) t => pA D tC (va_A [(f, .inr (3, [.ref e1, .ref e2, .int 5, .int 0])), (e1, wI tC 0 z1)] sz) [(f, .inr (3, [.ref e1, .ref e2, .int 5, .int 0])), (e1, wI tC 0 z1)] t) (va_A [(f, .inr (3, [.ref e1, .ref e2, .int 5, .int 0])), (e1, wI tC 0 z1)] sz)) 0 0 (va_A [(f, .inr (3, [.ref e1, .ref e2, .int 5, .int 0])), (e1, wI tC 0 z1)] sz) := by
  refine Met.ofW (cc := cX2_hasNoticeAt) (maxL := 2) (ret := (some .boolean)) (by decide) rfl ?_
  intro p e s m args below meth c s₁ B hml hv
  obtain ⟨rfl, hsz, hP, hK, hD0, hN, hE⟩ := hv
  have hx := B.exec
  have hb := B.bytes
  have hr := B.returns
  have hts := atoms_spec (ws := wsX2_hasNoticeAt) B.pre
  have hown : s.vm.findClass RX2 = some m.cls := findClass_of_methodNamed B.named
  have hlocks := B.notSynchronized
  subst hsz
  have hD := hD0.self (sz := s.heap.size)
  generalize hAe : va_A [(f, .inr (3, [.ref e1, .ref e2, .int 5, .int 0])), (e1, wI tC 0 z1)] s.heap.size = A at hD hE ⊢
  have hA : ∀ q : Nat, s.heap.size ≤ q → A q := fun q h => by rw [← hAe]; exact Or.inr h
  have hS : va_S A s.heap s.heap [] := va_S.rf
  have hP : va_P D vwCl [(f, .inr (3, [.ref e1, .ref e2, .int 5, .int 0])), (e1, wI tC 0 z1)] s.heap := hP
  have hl := lv_entry ([.ref f, .int p1]) (n := 2) (Nat.le_of_ble_eq_true rfl)
  rw [lg_entry_eq]
  generalize (lg_sl ([.ref f, .int p1]) ++ List.replicate (2 - (lg_sl ([.ref f, .int p1])).length) Slot.unset).toArray = ls at hl ⊢
  have hl : lv_has ls 2 [(0, .ref f), (1, .int p1)] := hl
  have w_0 := hts (.fieldLink RX2 7 "NoticeStations$Standing" "entries" "[I") (by decide +kernel)
  have w_1 := hts (.initialized RX4) (by decide +kernel)
  have w_2 := hts (.static yX4_isBelow) (by decide +kernel)
  refine lv_iload_n hx hb dX2_hasNoticeAt_0 rfl (lv_at hl 1 rfl) ?_
  refine lv_aload_n hx hb dX2_hasNoticeAt_1 rfl (lv_at hl 0 rfl) ?_
  refine va_get (D := D) (ci := 3) (v := .ref e1) (C := RX2) (T := TX2) (N := 4) hx hb hts in_X2_hasNoticeAt_X2 hown hK hP 0 rfl rfl 0 (by decide) w_0 (fun _ h9 => h9) rfl dX2_hasNoticeAt_2 ?_
  refine va_alen (v := 0) hx hb hK hP 1 0 rfl rfl (by first | decide | rfl) dX2_hasNoticeAt_5 ?_
  have hPc := hP.sub (ws' := []) [] rfl
  have hDc := hD.sub (ws' := []) [] (by decide) rfl
  have hFc := va_free (wc := []) hD hS hA [] rfl
  refine va_calli (va_runSN (As := [.int p1, .int 0]) (rest := []) ⟨hx, hb, hml, hown, hts⟩ (c_X4_isBelow l hlt D tC dz s.heap.size p1 0 ) ⟨(va_cnB (host := "NoticeStations") 2 hts gX2_hasNoticeAt_X4_isBelow_n23 rfl rfl rfl (hN.1 (.methodLinkNest "NoticeStations$Standing" 23 ⟨"NoticeStations", "isBelow", "(II)Z"⟩ "NoticeStations") (by decide +kernel)) w_1 (by decide +kernel) ⟨Nat.le_of_ble_eq_true rfl, Nat.le_of_ble_eq_true rfl⟩), w_2, trivial⟩ ⟨pB_blind, pB_at hPc hDc hK hN hE hS hFc⟩ rfl rfl hl.1 rfl (lv_room (Nat.le_of_ble_eq_true rfl)) dX2_hasNoticeAt_6 ⟨Nat.le_of_ble_eq_true rfl, Nat.le_of_ble_eq_true rfl⟩) hS (fun q _ h => hFc q h) hFc (fun r_1 u t H1 locs ht hvm hw hB hz1 hk1 hS => ?_)
  obtain ⟨hP1, _, hD1⟩ := hB
  have hw_2 := hw
  rw [ht] at hP1
  obtain ⟨hP, hD⟩ := va_join (wr := [(f, .inr (3, [.ref e1, .ref e2, .int 5, .int 0])), (e1, wI tC 0 z1)]) (w1 := []) hP hD [] [0, 1] rfl rfl (by decide) (by decide) hk1 hFc hP1 hD1
  generalize H1 = H at hP hS ⊢
  have hP : va_P D vwCl [(f, .inr (3, [.ref e1, .ref e2, .int 5, .int 0])), (e1, wI tC 0 z1)] H := hP
  have hD : va_D A [(f, .inr (3, [.ref e1, .ref e2, .int 5, .int 0])), (e1, wI tC 0 z1)] := hD
  refine lv_if_eq (tgt := 25) hx hb dX2_hasNoticeAt_9 (by decide) (fun _ => ?_) (fun hc => absurd ((by rw [hw_2, if_pos (lt_or0 _)])) hc)
  refine lv_iconst (v := 0) hx hb dX2_hasNoticeAt_25 (by decide) ?_
  have hP9 := hP.sub (ws' := [(f, .inr (3, [.ref e1, .ref e2, .int 5, .int 0])), (e1, wI tC 0 z1)]) [0, 1] rfl
  have hD9 := hD.sub (ws' := [(f, .inr (3, [.ref e1, .ref e2, .int 5, .int 0])), (e1, wI tC 0 z1)]) [0, 1] (by decide) rfl
  refine W.widen (k := 0) (n := 0) (by omega) (by omega) ?_
  exact W.zret (v := 0) hx hb hr (by decide) (fun t ht hW => ⟨⟨0, (), rfl, (by first | rfl | simp), (by rw [ht]; exact hP9), va_K.moved hW.alike hK, hD9⟩, hS.F ht⟩) hS.2.2 dX2_hasNoticeAt_26 hlocks
set_option maxHeartbeats 4000000 in
set_option maxRecDepth 100000 in
theorem c_X4_withdraw (l : Launch) (hlt : l.stackTraces = false) (D : va_G) (tC : Nat → ClassId) (dz sz : Nat) (x : Nat) (a1 : Nat) (a2 : Nat) (a3 : Nat) (a4 : Nat) (fs : Nat → Option Nat) (p0 : Int32) (p1 : Int32) (f : Nat) (e1 : Nat) (e2 : Nat) (z1 : Nat → Int32) (q : Nat) (ow : Int32) (hq : ∀ k : Nat, k < 5 → p0 = nI k → fs k = some q) : vx_Met l yX4_withdraw wsX4_withdraw ({ frames := 7, cells := 2, slots := 12, locals := 103 }) (va_Pc [.ref x, .int p0, .int p1] (pB D tC dz [(x, .inr (5, [.ref a1, .ref a2, .ref a3, .ref a4])), (a1, wT tC 5 fs), (q, .inr (4, [.int ow, .int 1, .ref f, .int 0, .int (-1), .null, .int (-1), .null])), (f, .inr (3, [.ref e1, .ref e2, .int 5, .int 0])), (e1, wI tC 0 z1)] sz)) (va_Qi (fun (r : Int32) (_ : Unit) => False) (fun (_ : Unit) t => pA D tC (va_A [(x, .inr (5, [.ref a1, .ref a2, .ref a3, .ref a4])), (a1, wT tC 5 fs), (q, .inr (4, [.int ow, .int 1, .ref f, .int 0, .int (-1), .null, .int (-1), .null])), (f, .inr (3, [.ref e1, .ref e2, .int 5, .int 0])), (e1, wI tC 0 z1)] sz) [] t) (va_A [(x, .inr (5, [.ref a1, .ref a2, .ref a3, .ref a4])), (a1, wT tC 5 fs), (q, .inr (4, [.int ow, .int 1, .ref f, .int 0, .int (-1), .null, .int (-1), .null])), (f, .inr (3, [.ref e1, .ref e2, .int 5, .int 0])), (e1, wI tC 0 z1)] sz)) (xX (fun E => (E = "java/lang/IndexOutOfBoundsException" ∧ (p0 < 0 ∨ 5 ≤ p0)) ∨ (E = "java/util/NoSuchElementException" ∧ ¬ (p0 < 0 ∨ 5 ≤ p0))) (va_A [(x, .inr (5, [.ref a1, .ref a2, .ref a3, .ref a4])), (a1, wT tC 5 fs), (q, .inr (4, [.int ow, .int 1, .ref f, .int 0, .int (-1), .null, .int (-1), .null])), (f, .inr (3, [.ref e1, .ref e2, .int 5, .int 0])), (e1, wI tC 0 z1)] sz)) 2 12 (va_A [(x, .inr (5, [.ref a1, .ref a2, .ref a3, .ref a4])), (a1, wT tC 5 fs), (q, .inr (4, [.int ow, .int 1, .ref f, .int 0, .int (-1), .null, .int (-1), .null])), (f, .inr (3, [.ref e1, .ref e2, .int 5, .int 0])), (e1, wI tC 0 z1)] sz) := by
  refine vx_ofW (cc := cX4_withdraw) (maxL := 4) (ret := (some .int)) (by decide) rfl ?_
  intro p e s m args below meth c s₁ B hml hnx hv
  obtain ⟨rfl, hsz, hP, hK, hD0, hN, hE⟩ := hv
  have hx := B.exec
  have hb := B.bytes
  have hr := B.returns
  have hts := atoms_spec (ws := wsX4_withdraw) B.pre
  have hown : s.vm.findClass RX4 = some m.cls := findClass_of_methodNamed B.named
  have hlocks := B.notSynchronized
  subst hsz
  have hD := hD0.self (sz := s.heap.size)
  generalize hAe : va_A [(x, .inr (5, [.ref a1, .ref a2, .ref a3, .ref a4])), (a1, wT tC 5 fs), (q, .inr (4, [.int ow, .int 1, .ref f, .int 0, .int (-1), .null, .int (-1), .null])), (f, .inr (3, [.ref e1, .ref e2, .int 5, .int 0])), (e1, wI tC 0 z1)] s.heap.size = A at hD hE ⊢
  have hA : ∀ q : Nat, s.heap.size ≤ q → A q := fun q h => by rw [← hAe]; exact Or.inr h
  have hS : va_S A s.heap s.heap [] := va_S.rf
  have hP : va_P D vwCl [(x, .inr (5, [.ref a1, .ref a2, .ref a3, .ref a4])), (a1, wT tC 5 fs), (q, .inr (4, [.int ow, .int 1, .ref f, .int 0, .int (-1), .null, .int (-1), .null])), (f, .inr (3, [.ref e1, .ref e2, .int 5, .int 0])), (e1, wI tC 0 z1)] s.heap := hP
  have hl := lv_entry ([.ref x, .int p0, .int p1]) (n := 4) (Nat.le_of_ble_eq_true rfl)
  rw [lg_entry_eq]
  generalize (lg_sl ([.ref x, .int p0, .int p1]) ++ List.replicate (4 - (lg_sl ([.ref x, .int p0, .int p1])).length) Slot.unset).toArray = ls at hl ⊢
  have hl : lv_has ls 4 [(0, .ref x), (1, .int p0), (2, .int p1)] := hl
  have w_0 := hts (.initialized RX2) (by decide +kernel)
  have w_1 := hts (.instanceMethod yX2_hasNoticeAt) (by decide +kernel)
  have w_2 := hts (.selects RX2 yX2_hasNoticeAt yX2_hasNoticeAt) (by decide +kernel)
  have w_3 := hts (.classLink RX4 72 "java/util/NoSuchElementException") (by decide +kernel)
  have w_4 := hts (.initialized "java/util/NoSuchElementException") (by decide +kernel)
  refine lv_aload_n hx hb dX4_withdraw_0 rfl (lv_at hl 0 rfl) ?_
  refine lv_iload_n hx hb dX4_withdraw_1 rfl (lv_at hl 1 rfl) ?_
  have hPc := hP.sub (ws' := [(x, .inr (5, [.ref a1, .ref a2, .ref a3, .ref a4])), (a1, wT tC 5 fs)]) [0, 1] rfl
  have hDc := hD.sub (ws' := [(x, .inr (5, [.ref a1, .ref a2, .ref a3, .ref a4])), (a1, wT tC 5 fs)]) [0, 1] (by decide) rfl
  have hFc := va_free (wc := [(x, .inr (5, [.ref a1, .ref a2, .ref a3, .ref a4])), (a1, wT tC 5 fs)]) hD hS hA [0, 1] rfl
  refine vx_callr (vx_runV (As := [.int p0]) (rest := []) ⟨hx, hb, hml, hown, hts⟩ (c_X4_stationAt l hlt D tC dz s.heap.size x a1 a2 a3 a4 fs p0 q hq) (cwV 1 hts gX4_withdraw_X4_stationAt rfl rfl rfl (by decide +kernel) ⟨Nat.le_of_ble_eq_true rfl, Nat.le_of_ble_eq_true rfl⟩) ⟨pB_blind, va_recv hK hPc (ci := 5) (q0 := 0) rfl rfl, pB_at hPc hDc hK hN hE hS hFc⟩ rfl rfl hl.1 rfl (lv_room (Nat.le_of_ble_eq_true rfl)) dX4_withdraw_2 ⟨Nat.le_of_ble_eq_true rfl, Nat.le_of_ble_eq_true rfl⟩) hS (fun q _ h => hFc q h) hFc (fun q _ h => hFc q h) (fun E ce q9 u t H1 locs ht hvm hpx hPE hz1 hk1 hS hce hcv hcl => ?_) (fun u r1 t H1 locs ht hvm hw hB hz1 hk1 hS => ?_)
  · skip
    exact vx_out (fun x h => (hnx x h).elim) hlocks hce hcv hcl (fun t9 h9 _ => ⟨(), trivial, Or.inl hPE, hS.F h9⟩) hS.2.2 (Nat.le_of_ble_eq_true rfl) (Nat.le_of_ble_eq_true rfl)
  · skip
    obtain ⟨k_1, k_2, hP1, _, hD1⟩ := hB
    have hw_3 := hw
    rw [ht] at hP1
    obtain ⟨hP, hD⟩ := va_join (wr := [(q, .inr (4, [.int ow, .int 1, .ref f, .int 0, .int (-1), .null, .int (-1), .null])), (f, .inr (3, [.ref e1, .ref e2, .int 5, .int 0])), (e1, wI tC 0 z1)]) (w1 := [(x, .inr (5, [.ref a1, .ref a2, .ref a3, .ref a4])), (a1, wT tC 5 fs)]) hP hD [0, 1] [2, 3, 4] rfl rfl (by decide) (by decide) hk1 hFc hP1 hD1
    generalize H1 = H at hP hS ⊢
    have hP : va_P D vwCl [(q, .inr (4, [.int ow, .int 1, .ref f, .int 0, .int (-1), .null, .int (-1), .null])), (f, .inr (3, [.ref e1, .ref e2, .int 5, .int 0])), (e1, wI tC 0 z1), (x, .inr (5, [.ref a1, .ref a2, .ref a3, .ref a4])), (a1, wT tC 5 fs)] H := hP
    have hD : va_D A [(q, .inr (4, [.int ow, .int 1, .ref f, .int 0, .int (-1), .null, .int (-1), .null])), (f, .inr (3, [.ref e1, .ref e2, .int 5, .int 0])), (e1, wI tC 0 z1), (x, .inr (5, [.ref a1, .ref a2, .ref a3, .ref a4])), (a1, wT tC 5 fs)] := hD
    refine W.widen (k := 1) (n := 6) (by omega) (by omega) ?_
    rw [k_1]
    refine lv_astore_n (lv' := [(3, .ref q), (0, .ref x), (1, .int p0), (2, .int p1)]) hx hb dX4_withdraw_5 rfl hl (by decide) rfl (fun ls hl => ?_)
    refine lv_aload_n hx hb dX4_withdraw_6 rfl (lv_at hl 0 rfl) ?_
    refine va_getN (host := "NoticeStations") (D := D) (ci := 4) (v := .ref f) (C := RX3) (T := TX3) (N := 8) hx hb hts in_X4_withdraw_X3 hown hK hP 0 rfl rfl 2 (by decide) (va_Nw.use rfl (hN.1 (.fieldLinkNest "NoticeStations" 61 "NoticeStations$Station" "stored" "LNoticeStations$Standing;" "NoticeStations") (by decide +kernel))) (fun _ h9 => h9) rfl dX4_withdraw_7 ?_
    refine lv_iload_n hx hb dX4_withdraw_10 rfl (lv_at hl 3 rfl) ?_
    have hPc := hP.sub (ws' := [(f, .inr (3, [.ref e1, .ref e2, .int 5, .int 0])), (e1, wI tC 0 z1)]) [1, 2] rfl
    have hDc := hD.sub (ws' := [(f, .inr (3, [.ref e1, .ref e2, .int 5, .int 0])), (e1, wI tC 0 z1)]) [1, 2] (by decide) rfl
    have hFc := va_free (wc := [(f, .inr (3, [.ref e1, .ref e2, .int 5, .int 0])), (e1, wI tC 0 z1)]) hD hS hA [1, 2] rfl
    refine va_calli (va_runVN (As := [.int p1]) (rest := []) ⟨hx, hb, hml, hown, hts⟩ (c_X2_hasNoticeAt l hlt D tC dz H.size f e1 e2 z1 p1 ) ⟨(va_cnB (host := "NoticeStations") 1 hts gX4_withdraw_X2_hasNoticeAt_n65 rfl rfl rfl (hN.1 (.methodLinkNest "NoticeStations" 65 ⟨"NoticeStations$Standing", "hasNoticeAt", "(I)Z"⟩ "NoticeStations") (by decide +kernel)) w_0 (by decide +kernel) ⟨Nat.le_of_ble_eq_true rfl, Nat.le_of_ble_eq_true rfl⟩), w_1, w_2⟩ ⟨pB_blind, va_recv hK hPc (ci := 3) (q0 := 0) rfl rfl, pB_at hPc hDc hK hN hE hS hFc⟩ rfl rfl hl.1 rfl (lv_room (Nat.le_of_ble_eq_true rfl)) dX4_withdraw_11 ⟨Nat.le_of_ble_eq_true rfl, Nat.le_of_ble_eq_true rfl⟩) hS (fun q _ h => hFc q h) hFc (fun r_4 u t H1 locs ht hvm hw hB hz1 hk1 hS => ?_)
    obtain ⟨hP1, _, hD1⟩ := hB
    have hw_5 := hw
    rw [ht] at hP1
    obtain ⟨hP, hD⟩ := va_join (wr := [(q, .inr (4, [.int ow, .int 1, .ref f, .int 0, .int (-1), .null, .int (-1), .null])), (x, .inr (5, [.ref a1, .ref a2, .ref a3, .ref a4])), (a1, wT tC 5 fs)]) (w1 := [(f, .inr (3, [.ref e1, .ref e2, .int 5, .int 0])), (e1, wI tC 0 z1)]) hP hD [1, 2] [0, 3, 4] rfl rfl (by decide) (by decide) hk1 hFc hP1 hD1
    generalize H1 = H at hP hS ⊢
    have hP : va_P D vwCl [(q, .inr (4, [.int ow, .int 1, .ref f, .int 0, .int (-1), .null, .int (-1), .null])), (x, .inr (5, [.ref a1, .ref a2, .ref a3, .ref a4])), (a1, wT tC 5 fs), (f, .inr (3, [.ref e1, .ref e2, .int 5, .int 0])), (e1, wI tC 0 z1)] H := hP
    have hD : va_D A [(q, .inr (4, [.int ow, .int 1, .ref f, .int 0, .int (-1), .null, .int (-1), .null])), (x, .inr (5, [.ref a1, .ref a2, .ref a3, .ref a4])), (a1, wT tC 5 fs), (f, .inr (3, [.ref e1, .ref e2, .int 5, .int 0])), (e1, wI tC 0 z1)] := hD
    subst hw_5
    refine lv_if_eq (tgt := 28) hx hb dX4_withdraw_14 (by decide) (fun _ => ?_) (fun hc => absurd (by decide) hc)
    obtain ⟨sa, hstr⟩ := hN.2.1 (74, "no notice to withdraw at this place") (by decide +kernel)
    exact vx_throwS hx hb hlt hown (by decide +kernel) (by decide +kernel) w_3 w_4 hstr (vx_hat (fun w hw => hts w (th_X4_withdraw_NSEE w hw)) at_NSEE_rest (at_NSEE_hat hN)) at_NSEE_ok hE.1 hE.2.1 hS (by rw [hml]; exact hl.1) dX4_withdraw_28 dX4_withdraw_31 dX4_withdraw_32 dX4_withdraw_34 dX4_withdraw_37 (fun x h => (hnx x h).elim) (by decide) (by decide) (Nat.le_of_ble_eq_true rfl) (Nat.le_of_ble_eq_true rfl) hlocks (fun t _ h1 h2 => ⟨(), trivial, Or.inr ⟨rfl, k_2⟩, xF hS h1 h2⟩) hS.2.2 (Nat.le_of_ble_eq_true rfl) (Nat.le_of_ble_eq_true rfl)
set_option maxHeartbeats 4000000 in
set_option maxRecDepth 100000 in
theorem c_X4_entry (l : Launch) (hlt : l.stackTraces = false) (D : va_G) (tC : Nat → ClassId) (dz sz : Nat) (x : Nat) (a1 : Nat) (a2 : Nat) (a3 : Nat) (a4 : Nat) (fs : Nat → Option Nat) (p0 : Int32) (p1 : Int32) (p2 : Int32) (f : Nat) (e1 : Nat) (e2 : Nat) (z1 : Nat → Int32) (q : Nat) (ow : Int32) (hq : ∀ k : Nat, k < 5 → p0 = nI k → fs k = some q) : vx_Met l yX4_entry wsX4_entry ({ frames := 7, cells := 2, slots := 12, locals := 103 }) (va_Pc [.ref x, .int p0, .int p1, .int p2] (pB D tC dz [(x, .inr (5, [.ref a1, .ref a2, .ref a3, .ref a4])), (a1, wT tC 5 fs), (q, .inr (4, [.int ow, .int 1, .ref f, .int 0, .int (-1), .null, .int (-1), .null])), (f, .inr (3, [.ref e1, .ref e2, .int 5, .int 0])), (e1, wI tC 0 z1)] sz)) (va_Qi (fun (r : Int32) (_ : Unit) => False) (fun (_ : Unit) t => pA D tC (va_A [(x, .inr (5, [.ref a1, .ref a2, .ref a3, .ref a4])), (a1, wT tC 5 fs), (q, .inr (4, [.int ow, .int 1, .ref f, .int 0, .int (-1), .null, .int (-1), .null])), (f, .inr (3, [.ref e1, .ref e2, .int 5, .int 0])), (e1, wI tC 0 z1)] sz) [] t) (va_A [(x, .inr (5, [.ref a1, .ref a2, .ref a3, .ref a4])), (a1, wT tC 5 fs), (q, .inr (4, [.int ow, .int 1, .ref f, .int 0, .int (-1), .null, .int (-1), .null])), (f, .inr (3, [.ref e1, .ref e2, .int 5, .int 0])), (e1, wI tC 0 z1)] sz)) (xX (fun E => (E = "java/lang/IndexOutOfBoundsException" ∧ (p0 < 0 ∨ 5 ≤ p0)) ∨ (E = "java/util/NoSuchElementException" ∧ ¬ (p0 < 0 ∨ 5 ≤ p0))) (va_A [(x, .inr (5, [.ref a1, .ref a2, .ref a3, .ref a4])), (a1, wT tC 5 fs), (q, .inr (4, [.int ow, .int 1, .ref f, .int 0, .int (-1), .null, .int (-1), .null])), (f, .inr (3, [.ref e1, .ref e2, .int 5, .int 0])), (e1, wI tC 0 z1)] sz)) 2 12 (va_A [(x, .inr (5, [.ref a1, .ref a2, .ref a3, .ref a4])), (a1, wT tC 5 fs), (q, .inr (4, [.int ow, .int 1, .ref f, .int 0, .int (-1), .null, .int (-1), .null])), (f, .inr (3, [.ref e1, .ref e2, .int 5, .int 0])), (e1, wI tC 0 z1)] sz) := by
  refine vx_ofW (cc := cX4_entry) (maxL := 5) (ret := (some .int)) (by decide) rfl ?_
  intro p e s m args below meth c s₁ B hml hnx hv
  obtain ⟨rfl, hsz, hP, hK, hD0, hN, hE⟩ := hv
  have hx := B.exec
  have hb := B.bytes
  have hr := B.returns
  have hts := atoms_spec (ws := wsX4_entry) B.pre
  have hown : s.vm.findClass RX4 = some m.cls := findClass_of_methodNamed B.named
  have hlocks := B.notSynchronized
  subst hsz
  have hD := hD0.self (sz := s.heap.size)
  generalize hAe : va_A [(x, .inr (5, [.ref a1, .ref a2, .ref a3, .ref a4])), (a1, wT tC 5 fs), (q, .inr (4, [.int ow, .int 1, .ref f, .int 0, .int (-1), .null, .int (-1), .null])), (f, .inr (3, [.ref e1, .ref e2, .int 5, .int 0])), (e1, wI tC 0 z1)] s.heap.size = A at hD hE ⊢
  have hA : ∀ q : Nat, s.heap.size ≤ q → A q := fun q h => by rw [← hAe]; exact Or.inr h
  have hS : va_S A s.heap s.heap [] := va_S.rf
  have hP : va_P D vwCl [(x, .inr (5, [.ref a1, .ref a2, .ref a3, .ref a4])), (a1, wT tC 5 fs), (q, .inr (4, [.int ow, .int 1, .ref f, .int 0, .int (-1), .null, .int (-1), .null])), (f, .inr (3, [.ref e1, .ref e2, .int 5, .int 0])), (e1, wI tC 0 z1)] s.heap := hP
  have hl := lv_entry ([.ref x, .int p0, .int p1, .int p2]) (n := 5) (Nat.le_of_ble_eq_true rfl)
  rw [lg_entry_eq]
  generalize (lg_sl ([.ref x, .int p0, .int p1, .int p2]) ++ List.replicate (5 - (lg_sl ([.ref x, .int p0, .int p1, .int p2])).length) Slot.unset).toArray = ls at hl ⊢
  have hl : lv_has ls 5 [(0, .ref x), (1, .int p0), (2, .int p1), (3, .int p2)] := hl
  have w_0 := hts (.initialized RX2) (by decide +kernel)
  have w_1 := hts (.instanceMethod yX2_length) (by decide +kernel)
  have w_2 := hts (.selects RX2 yX2_length yX2_length) (by decide +kernel)
  have w_3 := hts (.classLink RX4 72 "java/util/NoSuchElementException") (by decide +kernel)
  have w_4 := hts (.initialized "java/util/NoSuchElementException") (by decide +kernel)
  refine lv_aload_n hx hb dX4_entry_0 rfl (lv_at hl 0 rfl) ?_
  refine lv_iload_n hx hb dX4_entry_1 rfl (lv_at hl 1 rfl) ?_
  have hPc := hP.sub (ws' := [(x, .inr (5, [.ref a1, .ref a2, .ref a3, .ref a4])), (a1, wT tC 5 fs)]) [0, 1] rfl
  have hDc := hD.sub (ws' := [(x, .inr (5, [.ref a1, .ref a2, .ref a3, .ref a4])), (a1, wT tC 5 fs)]) [0, 1] (by decide) rfl
  have hFc := va_free (wc := [(x, .inr (5, [.ref a1, .ref a2, .ref a3, .ref a4])), (a1, wT tC 5 fs)]) hD hS hA [0, 1] rfl
  refine vx_callr (vx_runV (As := [.int p0]) (rest := []) ⟨hx, hb, hml, hown, hts⟩ (c_X4_stationAt l hlt D tC dz s.heap.size x a1 a2 a3 a4 fs p0 q hq) (cwV 1 hts gX4_entry_X4_stationAt rfl rfl rfl (by decide +kernel) ⟨Nat.le_of_ble_eq_true rfl, Nat.le_of_ble_eq_true rfl⟩) ⟨pB_blind, va_recv hK hPc (ci := 5) (q0 := 0) rfl rfl, pB_at hPc hDc hK hN hE hS hFc⟩ rfl rfl hl.1 rfl (lv_room (Nat.le_of_ble_eq_true rfl)) dX4_entry_2 ⟨Nat.le_of_ble_eq_true rfl, Nat.le_of_ble_eq_true rfl⟩) hS (fun q _ h => hFc q h) hFc (fun q _ h => hFc q h) (fun E ce q9 u t H1 locs ht hvm hpx hPE hz1 hk1 hS hce hcv hcl => ?_) (fun u r1 t H1 locs ht hvm hw hB hz1 hk1 hS => ?_)
  · skip
    exact vx_out (fun x h => (hnx x h).elim) hlocks hce hcv hcl (fun t9 h9 _ => ⟨(), trivial, Or.inl hPE, hS.F h9⟩) hS.2.2 (Nat.le_of_ble_eq_true rfl) (Nat.le_of_ble_eq_true rfl)
  · skip
    obtain ⟨k_1, k_2, hP1, _, hD1⟩ := hB
    have hw_3 := hw
    rw [ht] at hP1
    obtain ⟨hP, hD⟩ := va_join (wr := [(q, .inr (4, [.int ow, .int 1, .ref f, .int 0, .int (-1), .null, .int (-1), .null])), (f, .inr (3, [.ref e1, .ref e2, .int 5, .int 0])), (e1, wI tC 0 z1)]) (w1 := [(x, .inr (5, [.ref a1, .ref a2, .ref a3, .ref a4])), (a1, wT tC 5 fs)]) hP hD [0, 1] [2, 3, 4] rfl rfl (by decide) (by decide) hk1 hFc hP1 hD1
    generalize H1 = H at hP hS ⊢
    have hP : va_P D vwCl [(q, .inr (4, [.int ow, .int 1, .ref f, .int 0, .int (-1), .null, .int (-1), .null])), (f, .inr (3, [.ref e1, .ref e2, .int 5, .int 0])), (e1, wI tC 0 z1), (x, .inr (5, [.ref a1, .ref a2, .ref a3, .ref a4])), (a1, wT tC 5 fs)] H := hP
    have hD : va_D A [(q, .inr (4, [.int ow, .int 1, .ref f, .int 0, .int (-1), .null, .int (-1), .null])), (f, .inr (3, [.ref e1, .ref e2, .int 5, .int 0])), (e1, wI tC 0 z1), (x, .inr (5, [.ref a1, .ref a2, .ref a3, .ref a4])), (a1, wT tC 5 fs)] := hD
    refine W.widen (k := 1) (n := 6) (by omega) (by omega) ?_
    rw [k_1]
    refine va_getN (host := "NoticeStations") (D := D) (ci := 4) (v := .ref f) (C := RX3) (T := TX3) (N := 8) hx hb hts in_X4_entry_X3 hown hK hP 0 rfl rfl 2 (by decide) (va_Nw.use rfl (hN.1 (.fieldLinkNest "NoticeStations" 61 "NoticeStations$Station" "stored" "LNoticeStations$Standing;" "NoticeStations") (by decide +kernel))) (fun _ h9 => h9) rfl dX4_entry_5 ?_
    refine lv_astore (lv' := [(4, .ref f), (0, .ref x), (1, .int p0), (2, .int p1), (3, .int p2)]) hx hb dX4_entry_8 hl (by decide) rfl (fun ls hl => ?_)
    refine lv_iload_n hx hb dX4_entry_10 rfl (lv_at hl 3 rfl) ?_
    refine lv_aload hx hb dX4_entry_11 (lv_at hl 0 rfl) ?_
    have hPc := hP.sub (ws' := [(f, .inr (3, [.ref e1, .ref e2, .int 5, .int 0])), (e1, wI tC 0 z1)]) [1, 2] rfl
    have hDc := hD.sub (ws' := [(f, .inr (3, [.ref e1, .ref e2, .int 5, .int 0])), (e1, wI tC 0 z1)]) [1, 2] (by decide) rfl
    have hFc := va_free (wc := [(f, .inr (3, [.ref e1, .ref e2, .int 5, .int 0])), (e1, wI tC 0 z1)]) hD hS hA [1, 2] rfl
    refine va_calli (va_runVN (As := []) (rest := [.int p1]) ⟨hx, hb, hml, hown, hts⟩ (c_X2_length l hlt D tC dz H.size f e1 e2 z1 ) ⟨(va_cnB (host := "NoticeStations") 0 hts gX4_entry_X2_length_n107 rfl rfl rfl (hN.1 (.methodLinkNest "NoticeStations" 107 ⟨"NoticeStations$Standing", "length", "()I"⟩ "NoticeStations") (by decide +kernel)) w_0 (by decide +kernel) ⟨Nat.le_of_ble_eq_true rfl, Nat.le_of_ble_eq_true rfl⟩), w_1, w_2⟩ ⟨pB_blind, va_recv hK hPc (ci := 3) (q0 := 0) rfl rfl, pB_at hPc hDc hK hN hE hS hFc⟩ rfl rfl hl.1 rfl (lv_room (Nat.le_of_ble_eq_true rfl)) dX4_entry_13 ⟨Nat.le_of_ble_eq_true rfl, Nat.le_of_ble_eq_true rfl⟩) hS (fun q _ h => hFc q h) hFc (fun r_4 u t H1 locs ht hvm hw hB hz1 hk1 hS => ?_)
    obtain ⟨hP1, _, hD1⟩ := hB
    have hw_5 := hw
    rw [ht] at hP1
    obtain ⟨hP, hD⟩ := va_join (wr := [(q, .inr (4, [.int ow, .int 1, .ref f, .int 0, .int (-1), .null, .int (-1), .null])), (x, .inr (5, [.ref a1, .ref a2, .ref a3, .ref a4])), (a1, wT tC 5 fs)]) (w1 := [(f, .inr (3, [.ref e1, .ref e2, .int 5, .int 0])), (e1, wI tC 0 z1)]) hP hD [1, 2] [0, 3, 4] rfl rfl (by decide) (by decide) hk1 hFc hP1 hD1
    generalize H1 = H at hP hS ⊢
    have hP : va_P D vwCl [(q, .inr (4, [.int ow, .int 1, .ref f, .int 0, .int (-1), .null, .int (-1), .null])), (x, .inr (5, [.ref a1, .ref a2, .ref a3, .ref a4])), (a1, wT tC 5 fs), (f, .inr (3, [.ref e1, .ref e2, .int 5, .int 0])), (e1, wI tC 0 z1)] H := hP
    have hD : va_D A [(q, .inr (4, [.int ow, .int 1, .ref f, .int 0, .int (-1), .null, .int (-1), .null])), (x, .inr (5, [.ref a1, .ref a2, .ref a3, .ref a4])), (a1, wT tC 5 fs), (f, .inr (3, [.ref e1, .ref e2, .int 5, .int 0])), (e1, wI tC 0 z1)] := hD
    subst hw_5
    have hPc := hP.sub (ws' := []) [] rfl
    have hDc := hD.sub (ws' := []) [] (by decide) rfl
    have hFc := va_free (wc := []) hD hS hA [] rfl
    refine va_calli (va_runS (As := [.int p1, .int 0]) (rest := []) ⟨hx, hb, hml, hown, hts⟩ (c_X4_isBelow l hlt D tC dz H.size p1 0 ) (va_cwS 2 hts gX4_entry_X4_isBelow rfl rfl rfl (by decide +kernel) ⟨Nat.le_of_ble_eq_true rfl, Nat.le_of_ble_eq_true rfl⟩) ⟨pB_blind, pB_at hPc hDc hK hN hE hS hFc⟩ rfl rfl hl.1 rfl (lv_room (Nat.le_of_ble_eq_true rfl)) dX4_entry_16 ⟨Nat.le_of_ble_eq_true rfl, Nat.le_of_ble_eq_true rfl⟩) hS (fun q _ h => hFc q h) hFc (fun r_6 u t H1 locs ht hvm hw hB hz1 hk1 hS => ?_)
    obtain ⟨hP1, _, hD1⟩ := hB
    have hw_7 := hw
    rw [ht] at hP1
    obtain ⟨hP, hD⟩ := va_join (wr := [(q, .inr (4, [.int ow, .int 1, .ref f, .int 0, .int (-1), .null, .int (-1), .null])), (x, .inr (5, [.ref a1, .ref a2, .ref a3, .ref a4])), (a1, wT tC 5 fs), (f, .inr (3, [.ref e1, .ref e2, .int 5, .int 0])), (e1, wI tC 0 z1)]) (w1 := []) hP hD [] [0, 1, 2, 3, 4] rfl rfl (by decide) (by decide) hk1 hFc hP1 hD1
    generalize H1 = H at hP hS ⊢
    have hP : va_P D vwCl [(q, .inr (4, [.int ow, .int 1, .ref f, .int 0, .int (-1), .null, .int (-1), .null])), (x, .inr (5, [.ref a1, .ref a2, .ref a3, .ref a4])), (a1, wT tC 5 fs), (f, .inr (3, [.ref e1, .ref e2, .int 5, .int 0])), (e1, wI tC 0 z1)] H := hP
    have hD : va_D A [(q, .inr (4, [.int ow, .int 1, .ref f, .int 0, .int (-1), .null, .int (-1), .null])), (x, .inr (5, [.ref a1, .ref a2, .ref a3, .ref a4])), (a1, wT tC 5 fs), (f, .inr (3, [.ref e1, .ref e2, .int 5, .int 0])), (e1, wI tC 0 z1)] := hD
    refine lv_if_ne (tgt := 32) hx hb dX4_entry_19 (by decide) (fun hc => absurd ((by rw [hw_7, if_pos (lt_or0 _)])) hc) (fun _ => ?_)
    obtain ⟨sa, hstr⟩ := hN.2.1 (220, "no entry at this place") (by decide +kernel)
    exact vx_throwS hx hb hlt hown (by decide +kernel) (by decide +kernel) w_3 w_4 hstr (vx_hat (fun w hw => hts w (th_X4_entry_NSEE w hw)) at_NSEE_rest (at_NSEE_hat hN)) at_NSEE_ok hE.1 hE.2.1 hS (by rw [hml]; exact hl.1) dX4_entry_22 dX4_entry_25 dX4_entry_26 dX4_entry_28 dX4_entry_31 (fun x h => (hnx x h).elim) (by decide) (by decide) (Nat.le_of_ble_eq_true rfl) (Nat.le_of_ble_eq_true rfl) hlocks (fun t _ h1 h2 => ⟨(), trivial, Or.inr ⟨rfl, k_2⟩, xF hS h1 h2⟩) hS.2.2 (Nat.le_of_ble_eq_true rfl) (Nat.le_of_ble_eq_true rfl)
set_option maxHeartbeats 4000000 in
set_option maxRecDepth 100000 in
theorem c_X4_inForce (l : Launch) (hlt : l.stackTraces = false) (D : va_G) (tC : Nat → ClassId) (dz sz : Nat) (x : Nat) (a1 : Nat) (a2 : Nat) (a3 : Nat) (a4 : Nat) (fs : Nat → Option Nat) (p0 : Int32) (p1 : Int32) (p2 : Int32) (f : Nat) (e1 : Nat) (e2 : Nat) (z1 : Nat → Int32) (q : Nat) (ow : Int32) (hq : ∀ k : Nat, k < 5 → p0 = nI k → fs k = some q) : vx_Met l yX4_inForce wsX4_inForce ({ frames := 7, cells := 1, slots := 6, locals := 103 }) (va_Pc [.ref x, .int p0, .int p1, .int p2] (pB D tC dz [(x, .inr (5, [.ref a1, .ref a2, .ref a3, .ref a4])), (a1, wT tC 5 fs), (q, .inr (4, [.int ow, .int 1, .ref f, .int 0, .int (-1), .null, .int (-1), .null])), (f, .inr (3, [.ref e1, .ref e2, .int 5, .int 0])), (e1, wI tC 0 z1)] sz)) (va_Qi (fun (r : Int32) (_ : Unit) => r = 0 ∧ ¬ (p0 < 0 ∨ 5 ≤ p0)) (fun (_ : Unit) t => pA D tC (va_A [(x, .inr (5, [.ref a1, .ref a2, .ref a3, .ref a4])), (a1, wT tC 5 fs), (q, .inr (4, [.int ow, .int 1, .ref f, .int 0, .int (-1), .null, .int (-1), .null])), (f, .inr (3, [.ref e1, .ref e2, .int 5, .int 0])), (e1, wI tC 0 z1)] sz) [] t) (va_A [(x, .inr (5, [.ref a1, .ref a2, .ref a3, .ref a4])), (a1, wT tC 5 fs), (q, .inr (4, [.int ow, .int 1, .ref f, .int 0, .int (-1), .null, .int (-1), .null])), (f, .inr (3, [.ref e1, .ref e2, .int 5, .int 0])), (e1, wI tC 0 z1)] sz)) (xX (fun E => E = "java/lang/IndexOutOfBoundsException" ∧ (p0 < 0 ∨ 5 ≤ p0)) (va_A [(x, .inr (5, [.ref a1, .ref a2, .ref a3, .ref a4])), (a1, wT tC 5 fs), (q, .inr (4, [.int ow, .int 1, .ref f, .int 0, .int (-1), .null, .int (-1), .null])), (f, .inr (3, [.ref e1, .ref e2, .int 5, .int 0])), (e1, wI tC 0 z1)] sz)) 1 6 (va_A [(x, .inr (5, [.ref a1, .ref a2, .ref a3, .ref a4])), (a1, wT tC 5 fs), (q, .inr (4, [.int ow, .int 1, .ref f, .int 0, .int (-1), .null, .int (-1), .null])), (f, .inr (3, [.ref e1, .ref e2, .int 5, .int 0])), (e1, wI tC 0 z1)] sz) := by
  refine vx_ofW (cc := cX4_inForce) (maxL := 7) (ret := (some .int)) (by decide) rfl ?_
  intro p e s m args below meth c s₁ B hml hnx hv
  obtain ⟨rfl, hsz, hP, hK, hD0, hN, hE⟩ := hv
  have hx := B.exec
  have hb := B.bytes
  have hr := B.returns
  have hts := atoms_spec (ws := wsX4_inForce) B.pre
  have hown : s.vm.findClass RX4 = some m.cls := findClass_of_methodNamed B.named
  have hlocks := B.notSynchronized
  subst hsz
  have hD := hD0.self (sz := s.heap.size)
  generalize hAe : va_A [(x, .inr (5, [.ref a1, .ref a2, .ref a3, .ref a4])), (a1, wT tC 5 fs), (q, .inr (4, [.int ow, .int 1, .ref f, .int 0, .int (-1), .null, .int (-1), .null])), (f, .inr (3, [.ref e1, .ref e2, .int 5, .int 0])), (e1, wI tC 0 z1)] s.heap.size = A at hD hE ⊢
  have hA : ∀ q : Nat, s.heap.size ≤ q → A q := fun q h => by rw [← hAe]; exact Or.inr h
  have hS : va_S A s.heap s.heap [] := va_S.rf
  have hP : va_P D vwCl [(x, .inr (5, [.ref a1, .ref a2, .ref a3, .ref a4])), (a1, wT tC 5 fs), (q, .inr (4, [.int ow, .int 1, .ref f, .int 0, .int (-1), .null, .int (-1), .null])), (f, .inr (3, [.ref e1, .ref e2, .int 5, .int 0])), (e1, wI tC 0 z1)] s.heap := hP
  have hl := lv_entry ([.ref x, .int p0, .int p1, .int p2]) (n := 7) (Nat.le_of_ble_eq_true rfl)
  rw [lg_entry_eq]
  generalize (lg_sl ([.ref x, .int p0, .int p1, .int p2]) ++ List.replicate (7 - (lg_sl ([.ref x, .int p0, .int p1, .int p2])).length) Slot.unset).toArray = ls at hl ⊢
  have hl : lv_has ls 7 [(0, .ref x), (1, .int p0), (2, .int p1), (3, .int p2)] := hl
  have w_0 := hts (.initialized RX2) (by decide +kernel)
  have w_1 := hts (.instanceMethod yX2_length) (by decide +kernel)
  have w_2 := hts (.selects RX2 yX2_length yX2_length) (by decide +kernel)
  refine lv_aload_n hx hb dX4_inForce_0 rfl (lv_at hl 0 rfl) ?_
  refine lv_iload_n hx hb dX4_inForce_1 rfl (lv_at hl 1 rfl) ?_
  have hPc := hP.sub (ws' := [(x, .inr (5, [.ref a1, .ref a2, .ref a3, .ref a4])), (a1, wT tC 5 fs)]) [0, 1] rfl
  have hDc := hD.sub (ws' := [(x, .inr (5, [.ref a1, .ref a2, .ref a3, .ref a4])), (a1, wT tC 5 fs)]) [0, 1] (by decide) rfl
  have hFc := va_free (wc := [(x, .inr (5, [.ref a1, .ref a2, .ref a3, .ref a4])), (a1, wT tC 5 fs)]) hD hS hA [0, 1] rfl
  refine vx_callr (vx_runV (As := [.int p0]) (rest := []) ⟨hx, hb, hml, hown, hts⟩ (c_X4_stationAt l hlt D tC dz s.heap.size x a1 a2 a3 a4 fs p0 q hq) (cwV 1 hts gX4_inForce_X4_stationAt rfl rfl rfl (by decide +kernel) ⟨Nat.le_of_ble_eq_true rfl, Nat.le_of_ble_eq_true rfl⟩) ⟨pB_blind, va_recv hK hPc (ci := 5) (q0 := 0) rfl rfl, pB_at hPc hDc hK hN hE hS hFc⟩ rfl rfl hl.1 rfl (lv_room (Nat.le_of_ble_eq_true rfl)) dX4_inForce_2 ⟨Nat.le_of_ble_eq_true rfl, Nat.le_of_ble_eq_true rfl⟩) hS (fun q _ h => hFc q h) hFc (fun q _ h => hFc q h) (fun E ce q9 u t H1 locs ht hvm hpx hPE hz1 hk1 hS hce hcv hcl => ?_) (fun u r1 t H1 locs ht hvm hw hB hz1 hk1 hS => ?_)
  · skip
    exact vx_out (fun x h => (hnx x h).elim) hlocks hce hcv hcl (fun t9 h9 _ => ⟨(), trivial, hPE, hS.F h9⟩) hS.2.2 (Nat.le_of_ble_eq_true rfl) (Nat.le_of_ble_eq_true rfl)
  · skip
    obtain ⟨k_1, k_2, hP1, _, hD1⟩ := hB
    have hw_3 := hw
    rw [ht] at hP1
    obtain ⟨hP, hD⟩ := va_join (wr := [(q, .inr (4, [.int ow, .int 1, .ref f, .int 0, .int (-1), .null, .int (-1), .null])), (f, .inr (3, [.ref e1, .ref e2, .int 5, .int 0])), (e1, wI tC 0 z1)]) (w1 := [(x, .inr (5, [.ref a1, .ref a2, .ref a3, .ref a4])), (a1, wT tC 5 fs)]) hP hD [0, 1] [2, 3, 4] rfl rfl (by decide) (by decide) hk1 hFc hP1 hD1
    generalize H1 = H at hP hS ⊢
    have hP : va_P D vwCl [(q, .inr (4, [.int ow, .int 1, .ref f, .int 0, .int (-1), .null, .int (-1), .null])), (f, .inr (3, [.ref e1, .ref e2, .int 5, .int 0])), (e1, wI tC 0 z1), (x, .inr (5, [.ref a1, .ref a2, .ref a3, .ref a4])), (a1, wT tC 5 fs)] H := hP
    have hD : va_D A [(q, .inr (4, [.int ow, .int 1, .ref f, .int 0, .int (-1), .null, .int (-1), .null])), (f, .inr (3, [.ref e1, .ref e2, .int 5, .int 0])), (e1, wI tC 0 z1), (x, .inr (5, [.ref a1, .ref a2, .ref a3, .ref a4])), (a1, wT tC 5 fs)] := hD
    refine W.widen (k := 1) (n := 6) (by omega) (by omega) ?_
    rw [k_1]
    refine va_getN (host := "NoticeStations") (D := D) (ci := 4) (v := .ref f) (C := RX3) (T := TX3) (N := 8) hx hb hts in_X4_inForce_X3 hown hK hP 0 rfl rfl 2 (by decide) (va_Nw.use rfl (hN.1 (.fieldLinkNest "NoticeStations" 61 "NoticeStations$Station" "stored" "LNoticeStations$Standing;" "NoticeStations") (by decide +kernel))) (fun _ h9 => h9) rfl dX4_inForce_5 ?_
    refine lv_astore (lv' := [(4, .ref f), (0, .ref x), (1, .int p0), (2, .int p1), (3, .int p2)]) hx hb dX4_inForce_8 hl (by decide) rfl (fun ls hl => ?_)
    refine lv_iconst (v := 0) hx hb dX4_inForce_10 (by decide) ?_
    refine lv_istore (lv' := [(5, .int 0), (4, .ref f), (0, .ref x), (1, .int p0), (2, .int p1), (3, .int p2)]) hx hb dX4_inForce_11 hl (by decide) rfl (fun ls hl => ?_)
    refine lv_iconst (v := 0) hx hb dX4_inForce_13 (by decide) ?_
    refine lv_istore (lv' := [(6, .int 0), (5, .int 0), (4, .ref f), (0, .ref x), (1, .int p0), (2, .int p1), (3, .int p2)]) hx hb dX4_inForce_14 hl (by decide) rfl (fun ls hl => ?_)
    refine lv_iload hx hb dX4_inForce_16 (lv_at hl 0 rfl) ?_
    refine lv_aload hx hb dX4_inForce_18 (lv_at hl 2 rfl) ?_
    have hPc := hP.sub (ws' := [(f, .inr (3, [.ref e1, .ref e2, .int 5, .int 0])), (e1, wI tC 0 z1)]) [1, 2] rfl
    have hDc := hD.sub (ws' := [(f, .inr (3, [.ref e1, .ref e2, .int 5, .int 0])), (e1, wI tC 0 z1)]) [1, 2] (by decide) rfl
    have hFc := va_free (wc := [(f, .inr (3, [.ref e1, .ref e2, .int 5, .int 0])), (e1, wI tC 0 z1)]) hD hS hA [1, 2] rfl
    refine va_calli (va_runVN (As := []) (rest := [.int 0]) ⟨hx, hb, hml, hown, hts⟩ (c_X2_length l hlt D tC dz H.size f e1 e2 z1 ) ⟨(va_cnB (host := "NoticeStations") 0 hts gX4_inForce_X2_length_n107 rfl rfl rfl (hN.1 (.methodLinkNest "NoticeStations" 107 ⟨"NoticeStations$Standing", "length", "()I"⟩ "NoticeStations") (by decide +kernel)) w_0 (by decide +kernel) ⟨Nat.le_of_ble_eq_true rfl, Nat.le_of_ble_eq_true rfl⟩), w_1, w_2⟩ ⟨pB_blind, va_recv hK hPc (ci := 3) (q0 := 0) rfl rfl, pB_at hPc hDc hK hN hE hS hFc⟩ rfl rfl hl.1 rfl (lv_room (Nat.le_of_ble_eq_true rfl)) dX4_inForce_20 ⟨Nat.le_of_ble_eq_true rfl, Nat.le_of_ble_eq_true rfl⟩) hS (fun q _ h => hFc q h) hFc (fun r_4 u t H1 locs ht hvm hw hB hz1 hk1 hS => ?_)
    obtain ⟨hP1, _, hD1⟩ := hB
    have hw_5 := hw
    rw [ht] at hP1
    obtain ⟨hP, hD⟩ := va_join (wr := [(q, .inr (4, [.int ow, .int 1, .ref f, .int 0, .int (-1), .null, .int (-1), .null])), (x, .inr (5, [.ref a1, .ref a2, .ref a3, .ref a4])), (a1, wT tC 5 fs)]) (w1 := [(f, .inr (3, [.ref e1, .ref e2, .int 5, .int 0])), (e1, wI tC 0 z1)]) hP hD [1, 2] [0, 3, 4] rfl rfl (by decide) (by decide) hk1 hFc hP1 hD1
    generalize H1 = H at hP hS ⊢
    have hP : va_P D vwCl [(q, .inr (4, [.int ow, .int 1, .ref f, .int 0, .int (-1), .null, .int (-1), .null])), (x, .inr (5, [.ref a1, .ref a2, .ref a3, .ref a4])), (a1, wT tC 5 fs), (f, .inr (3, [.ref e1, .ref e2, .int 5, .int 0])), (e1, wI tC 0 z1)] H := hP
    have hD : va_D A [(q, .inr (4, [.int ow, .int 1, .ref f, .int 0, .int (-1), .null, .int (-1), .null])), (x, .inr (5, [.ref a1, .ref a2, .ref a3, .ref a4])), (a1, wT tC 5 fs), (f, .inr (3, [.ref e1, .ref e2, .int 5, .int 0])), (e1, wI tC 0 z1)] := hD
    subst hw_5
    refine lv_icmp_ge (tgt := 71) hx hb dX4_inForce_23 (by decide) (fun _ => ?_) (fun hc => absurd (by decide) hc)
    refine lv_iload hx hb dX4_inForce_71 (lv_at hl 1 rfl) ?_
    have hP9 := hP.sub (ws' := []) [] rfl
    have hD9 := hD.sub (ws' := []) [] (by decide) rfl
    refine W.widen (k := 1) (n := 6) (by omega) (by omega) ?_
    exact vx_ret (W.iret (v := 0) hx hb hr (fun t ht hW => ⟨⟨0, (), rfl, ⟨rfl, k_2⟩, (by rw [ht]; exact hP9), va_K.moved hW.alike hK, hD9⟩, hS.F ht⟩) hS.2.2 dX4_inForce_73 hlocks)
end
section
theorem zz_t : True := trivial
end
